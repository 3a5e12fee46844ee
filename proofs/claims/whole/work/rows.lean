section
-- ===== PART A: goes FIRST, ahead of the names: the tables' words, and 'selects' of the private methods out of them =====
/-- a private method of a class that the tables say can be made, by its rows of tables_1 -/
def lw_okq (q : MethodName × Nat) : Prop := (q.1.cls ≠ "java/lang/invoke/MethodHandle" ∧ q.1.cls ≠ "java/lang/invoke/VarHandle") ∧ Cond.instantiable q.1.cls q.2 ∈ tables_1 ∧ Cond.privateMethod q.1 ∈ tables_1 ∧ Cond.instanceMethod q.1 ∈ tables_1
theorem lw_p0 : lw_okq (⟨"ThirdDay", "laidOut", "([LThirdDay$Row;III)I"⟩, 12) := ⟨⟨by decide +kernel, by decide +kernel⟩, List.mem_of_getElem? (i := 14) (by decide +kernel), List.mem_of_getElem? (i := 240) (by decide +kernel), List.mem_of_getElem? (i := 241) (by decide +kernel)⟩
theorem lw_p1 : lw_okq (⟨"ThirdDay", "found", "(I)I"⟩, 12) := ⟨⟨by decide +kernel, by decide +kernel⟩, List.mem_of_getElem? (i := 14) (by decide +kernel), List.mem_of_getElem? (i := 247) (by decide +kernel), List.mem_of_getElem? (i := 248) (by decide +kernel)⟩
theorem lw_p2 : lw_okq (⟨"ThirdDay", "placeRefusal", "([LThirdDay$Row;II)I"⟩, 12) := ⟨⟨by decide +kernel, by decide +kernel⟩, List.mem_of_getElem? (i := 14) (by decide +kernel), List.mem_of_getElem? (i := 259) (by decide +kernel), List.mem_of_getElem? (i := 260) (by decide +kernel)⟩
theorem lw_p3 : lw_okq (⟨"ThirdDay", "missingRefusal", "([LThirdDay$Row;I)I"⟩, 12) := ⟨⟨by decide +kernel, by decide +kernel⟩, List.mem_of_getElem? (i := 14) (by decide +kernel), List.mem_of_getElem? (i := 263) (by decide +kernel), List.mem_of_getElem? (i := 264) (by decide +kernel)⟩
theorem lw_p4 : lw_okq (⟨"ThirdDay$Reader", "passBlanks", "(LThirdDay$Row;)V"⟩, 4) := ⟨⟨by decide +kernel, by decide +kernel⟩, List.mem_of_getElem? (i := 24) (by decide +kernel), List.mem_of_getElem? (i := 314) (by decide +kernel), List.mem_of_getElem? (i := 315) (by decide +kernel)⟩
theorem lw_p5 : lw_okq (⟨"ThirdDay$Reader", "takeIron", "(LThirdDay$Row;)Z"⟩, 4) := ⟨⟨by decide +kernel, by decide +kernel⟩, List.mem_of_getElem? (i := 24) (by decide +kernel), List.mem_of_getElem? (i := 318) (by decide +kernel), List.mem_of_getElem? (i := 319) (by decide +kernel)⟩
theorem lw_p6 : lw_okq (⟨"ThirdDay$Reader", "takeFigure", "(LThirdDay$Row;II)Z"⟩, 4) := ⟨⟨by decide +kernel, by decide +kernel⟩, List.mem_of_getElem? (i := 24) (by decide +kernel), List.mem_of_getElem? (i := 322) (by decide +kernel), List.mem_of_getElem? (i := 323) (by decide +kernel)⟩
theorem lw_p7 : lw_okq (⟨"ThirdDay$Reader", "take", "(I)V"⟩, 4) := ⟨⟨by decide +kernel, by decide +kernel⟩, List.mem_of_getElem? (i := 24) (by decide +kernel), List.mem_of_getElem? (i := 326) (by decide +kernel), List.mem_of_getElem? (i := 327) (by decide +kernel)⟩
theorem lw_p8 : lw_okq (⟨"ThirdDay$Reader", "takeMan", "(LThirdDay$Row;)Z"⟩, 4) := ⟨⟨by decide +kernel, by decide +kernel⟩, List.mem_of_getElem? (i := 24) (by decide +kernel), List.mem_of_getElem? (i := 330) (by decide +kernel), List.mem_of_getElem? (i := 331) (by decide +kernel)⟩
theorem lw_p9 : lw_okq (⟨"ThirdDay$Court", "act", "(II)V"⟩, 9) := ⟨⟨by decide +kernel, by decide +kernel⟩, List.mem_of_getElem? (i := 46) (by decide +kernel), List.mem_of_getElem? (i := 357) (by decide +kernel), List.mem_of_getElem? (i := 358) (by decide +kernel)⟩
theorem lw_p10 : lw_okq (⟨"ThirdDay", "isMan", "(I)Z"⟩, 12) := ⟨⟨by decide +kernel, by decide +kernel⟩, List.mem_of_getElem? (i := 14) (by decide +kernel), List.mem_of_getElem? (i := 414) (by decide +kernel), List.mem_of_getElem? (i := 415) (by decide +kernel)⟩
theorem lw_p11 : lw_okq (⟨"ThirdDay", "heatRefusal", "(I)I"⟩, 12) := ⟨⟨by decide +kernel, by decide +kernel⟩, List.mem_of_getElem? (i := 14) (by decide +kernel), List.mem_of_getElem? (i := 504) (by decide +kernel), List.mem_of_getElem? (i := 505) (by decide +kernel)⟩
theorem lw_p12 : lw_okq (⟨"ThirdDay$Court", "wouldWrong", "(LThirdDay$Man;I)Z"⟩, 9) := ⟨⟨by decide +kernel, by decide +kernel⟩, List.mem_of_getElem? (i := 46) (by decide +kernel), List.mem_of_getElem? (i := 512) (by decide +kernel), List.mem_of_getElem? (i := 513) (by decide +kernel)⟩
theorem lw_p13 : lw_okq (⟨"ThirdDay", "tellFraction", "(JJ)V"⟩, 12) := ⟨⟨by decide +kernel, by decide +kernel⟩, List.mem_of_getElem? (i := 14) (by decide +kernel), List.mem_of_getElem? (i := 537) (by decide +kernel), List.mem_of_getElem? (i := 538) (by decide +kernel)⟩
theorem lw_p14 : lw_okq (⟨"ThirdDay", "rowRefusal", "(I)I"⟩, 12) := ⟨⟨by decide +kernel, by decide +kernel⟩, List.mem_of_getElem? (i := 14) (by decide +kernel), List.mem_of_getElem? (i := 548) (by decide +kernel), List.mem_of_getElem? (i := 549) (by decide +kernel)⟩
theorem lw_p15 : lw_okq (⟨"ThirdDay$Orders", "goOn", "(LThirdDay$Court;LThirdDay$Row;IIII)V"⟩, 2) := ⟨⟨by decide +kernel, by decide +kernel⟩, List.mem_of_getElem? (i := 152) (by decide +kernel), List.mem_of_getElem? (i := 568) (by decide +kernel), List.mem_of_getElem? (i := 569) (by decide +kernel)⟩
def lw_privs_1 : List (MethodName × Nat) := [(⟨"ThirdDay", "laidOut", "([LThirdDay$Row;III)I"⟩, 12), (⟨"ThirdDay", "found", "(I)I"⟩, 12), (⟨"ThirdDay", "placeRefusal", "([LThirdDay$Row;II)I"⟩, 12), (⟨"ThirdDay", "missingRefusal", "([LThirdDay$Row;I)I"⟩, 12), (⟨"ThirdDay$Reader", "passBlanks", "(LThirdDay$Row;)V"⟩, 4), (⟨"ThirdDay$Reader", "takeIron", "(LThirdDay$Row;)Z"⟩, 4), (⟨"ThirdDay$Reader", "takeFigure", "(LThirdDay$Row;II)Z"⟩, 4), (⟨"ThirdDay$Reader", "take", "(I)V"⟩, 4), (⟨"ThirdDay$Reader", "takeMan", "(LThirdDay$Row;)Z"⟩, 4), (⟨"ThirdDay$Court", "act", "(II)V"⟩, 9), (⟨"ThirdDay", "isMan", "(I)Z"⟩, 12), (⟨"ThirdDay", "heatRefusal", "(I)I"⟩, 12), (⟨"ThirdDay$Court", "wouldWrong", "(LThirdDay$Man;I)Z"⟩, 9), (⟨"ThirdDay", "tellFraction", "(JJ)V"⟩, 12), (⟨"ThirdDay", "rowRefusal", "(I)I"⟩, 12), (⟨"ThirdDay$Orders", "goOn", "(LThirdDay$Court;LThirdDay$Row;IIII)V"⟩, 2)]
theorem lw_r1 : ∀ q ∈ lw_privs_1, lw_okq q := List.forall_mem_cons.mpr ⟨lw_p0, List.forall_mem_cons.mpr ⟨lw_p1, List.forall_mem_cons.mpr ⟨lw_p2, List.forall_mem_cons.mpr ⟨lw_p3, List.forall_mem_cons.mpr ⟨lw_p4, List.forall_mem_cons.mpr ⟨lw_p5, List.forall_mem_cons.mpr ⟨lw_p6, List.forall_mem_cons.mpr ⟨lw_p7, List.forall_mem_cons.mpr ⟨lw_p8, List.forall_mem_cons.mpr ⟨lw_p9, List.forall_mem_cons.mpr ⟨lw_p10, List.forall_mem_cons.mpr ⟨lw_p11, List.forall_mem_cons.mpr ⟨lw_p12, List.forall_mem_cons.mpr ⟨lw_p13, List.forall_mem_cons.mpr ⟨lw_p14, List.forall_mem_cons.mpr ⟨lw_p15, fun _ h => absurd h List.not_mem_nil⟩⟩⟩⟩⟩⟩⟩⟩⟩⟩⟩⟩⟩⟩⟩⟩
theorem lw_p16 : lw_okq (⟨"ThirdDay", "orderFinding", "(LThirdDay$Row;)I"⟩, 12) := ⟨⟨by decide +kernel, by decide +kernel⟩, List.mem_of_getElem? (i := 14) (by decide +kernel), List.mem_of_getElem? (i := 580) (by decide +kernel), List.mem_of_getElem? (i := 581) (by decide +kernel)⟩
theorem lw_p17 : lw_okq (⟨"ThirdDay", "trialsRefusal", "(I)I"⟩, 12) := ⟨⟨by decide +kernel, by decide +kernel⟩, List.mem_of_getElem? (i := 14) (by decide +kernel), List.mem_of_getElem? (i := 604) (by decide +kernel), List.mem_of_getElem? (i := 605) (by decide +kernel)⟩
theorem lw_p18 : lw_okq (⟨"ThirdDay", "suppositionRefusal", "(II)I"⟩, 12) := ⟨⟨by decide +kernel, by decide +kernel⟩, List.mem_of_getElem? (i := 14) (by decide +kernel), List.mem_of_getElem? (i := 631) (by decide +kernel), List.mem_of_getElem? (i := 632) (by decide +kernel)⟩
theorem lw_p19 : lw_okq (⟨"ThirdDay$Duel", "chosen", "(IZ)I"⟩, 2) := ⟨⟨by decide +kernel, by decide +kernel⟩, List.mem_of_getElem? (i := 165) (by decide +kernel), List.mem_of_getElem? (i := 656) (by decide +kernel), List.mem_of_getElem? (i := 657) (by decide +kernel)⟩
theorem lw_p20 : lw_okq (⟨"ThirdDay", "chanceRefusal", "(I)I"⟩, 12) := ⟨⟨by decide +kernel, by decide +kernel⟩, List.mem_of_getElem? (i := 14) (by decide +kernel), List.mem_of_getElem? (i := 667) (by decide +kernel), List.mem_of_getElem? (i := 668) (by decide +kernel)⟩
theorem lw_p21 : lw_okq (⟨"ThirdDay", "courtsKept", "()I"⟩, 12) := ⟨⟨by decide +kernel, by decide +kernel⟩, List.mem_of_getElem? (i := 14) (by decide +kernel), List.mem_of_getElem? (i := 727) (by decide +kernel), List.mem_of_getElem? (i := 728) (by decide +kernel)⟩
theorem lw_p22 : lw_okq (⟨"ThirdDayModel", "layBegun", "()V"⟩, 30) := ⟨⟨by decide +kernel, by decide +kernel⟩, List.mem_of_getElem? (i := 751) (by decide +kernel), List.mem_of_getElem? (i := 757) (by decide +kernel), List.mem_of_getElem? (i := 758) (by decide +kernel)⟩
theorem lw_p23 : lw_okq (⟨"ThirdDayModel", "find", "(I)I"⟩, 30) := ⟨⟨by decide +kernel, by decide +kernel⟩, List.mem_of_getElem? (i := 751) (by decide +kernel), List.mem_of_getElem? (i := 863) (by decide +kernel), List.mem_of_getElem? (i := 864) (by decide +kernel)⟩
theorem lw_p24 : lw_okq (⟨"ThirdDayModel", "makeRow", "(II)V"⟩, 30) := ⟨⟨by decide +kernel, by decide +kernel⟩, List.mem_of_getElem? (i := 751) (by decide +kernel), List.mem_of_getElem? (i := 867) (by decide +kernel), List.mem_of_getElem? (i := 868) (by decide +kernel)⟩
theorem lw_p25 : lw_okq (⟨"ThirdDayModel", "refused", "(II)I"⟩, 30) := ⟨⟨by decide +kernel, by decide +kernel⟩, List.mem_of_getElem? (i := 751) (by decide +kernel), List.mem_of_getElem? (i := 875) (by decide +kernel), List.mem_of_getElem? (i := 876) (by decide +kernel)⟩
theorem lw_p26 : lw_okq (⟨"ThirdDayModel", "tell", "(I)I"⟩, 30) := ⟨⟨by decide +kernel, by decide +kernel⟩, List.mem_of_getElem? (i := 751) (by decide +kernel), List.mem_of_getElem? (i := 879) (by decide +kernel), List.mem_of_getElem? (i := 880) (by decide +kernel)⟩
theorem lw_p27 : lw_okq (⟨"ThirdDayModel", "isSpan", "(III)Z"⟩, 30) := ⟨⟨by decide +kernel, by decide +kernel⟩, List.mem_of_getElem? (i := 751) (by decide +kernel), List.mem_of_getElem? (i := 895) (by decide +kernel), List.mem_of_getElem? (i := 896) (by decide +kernel)⟩
theorem lw_p28 : lw_okq (⟨"ThirdDayModel", "faultOf", "(I)I"⟩, 30) := ⟨⟨by decide +kernel, by decide +kernel⟩, List.mem_of_getElem? (i := 751) (by decide +kernel), List.mem_of_getElem? (i := 919) (by decide +kernel), List.mem_of_getElem? (i := 920) (by decide +kernel)⟩
theorem lw_p29 : lw_okq (⟨"ThirdDayModel", "readsIron", "()Z"⟩, 30) := ⟨⟨by decide +kernel, by decide +kernel⟩, List.mem_of_getElem? (i := 751) (by decide +kernel), List.mem_of_getElem? (i := 923) (by decide +kernel), List.mem_of_getElem? (i := 924) (by decide +kernel)⟩
theorem lw_p30 : lw_okq (⟨"ThirdDayModel", "skip", "()V"⟩, 30) := ⟨⟨by decide +kernel, by decide +kernel⟩, List.mem_of_getElem? (i := 751) (by decide +kernel), List.mem_of_getElem? (i := 927) (by decide +kernel), List.mem_of_getElem? (i := 928) (by decide +kernel)⟩
theorem lw_p31 : lw_okq (⟨"ThirdDayModel", "here", "()I"⟩, 30) := ⟨⟨by decide +kernel, by decide +kernel⟩, List.mem_of_getElem? (i := 751) (by decide +kernel), List.mem_of_getElem? (i := 931) (by decide +kernel), List.mem_of_getElem? (i := 932) (by decide +kernel)⟩
def lw_privs_2 : List (MethodName × Nat) := [(⟨"ThirdDay", "orderFinding", "(LThirdDay$Row;)I"⟩, 12), (⟨"ThirdDay", "trialsRefusal", "(I)I"⟩, 12), (⟨"ThirdDay", "suppositionRefusal", "(II)I"⟩, 12), (⟨"ThirdDay$Duel", "chosen", "(IZ)I"⟩, 2), (⟨"ThirdDay", "chanceRefusal", "(I)I"⟩, 12), (⟨"ThirdDay", "courtsKept", "()I"⟩, 12), (⟨"ThirdDayModel", "layBegun", "()V"⟩, 30), (⟨"ThirdDayModel", "find", "(I)I"⟩, 30), (⟨"ThirdDayModel", "makeRow", "(II)V"⟩, 30), (⟨"ThirdDayModel", "refused", "(II)I"⟩, 30), (⟨"ThirdDayModel", "tell", "(I)I"⟩, 30), (⟨"ThirdDayModel", "isSpan", "(III)Z"⟩, 30), (⟨"ThirdDayModel", "faultOf", "(I)I"⟩, 30), (⟨"ThirdDayModel", "readsIron", "()Z"⟩, 30), (⟨"ThirdDayModel", "skip", "()V"⟩, 30), (⟨"ThirdDayModel", "here", "()I"⟩, 30)]
theorem lw_r2 : ∀ q ∈ lw_privs_2, lw_okq q := List.forall_mem_cons.mpr ⟨lw_p16, List.forall_mem_cons.mpr ⟨lw_p17, List.forall_mem_cons.mpr ⟨lw_p18, List.forall_mem_cons.mpr ⟨lw_p19, List.forall_mem_cons.mpr ⟨lw_p20, List.forall_mem_cons.mpr ⟨lw_p21, List.forall_mem_cons.mpr ⟨lw_p22, List.forall_mem_cons.mpr ⟨lw_p23, List.forall_mem_cons.mpr ⟨lw_p24, List.forall_mem_cons.mpr ⟨lw_p25, List.forall_mem_cons.mpr ⟨lw_p26, List.forall_mem_cons.mpr ⟨lw_p27, List.forall_mem_cons.mpr ⟨lw_p28, List.forall_mem_cons.mpr ⟨lw_p29, List.forall_mem_cons.mpr ⟨lw_p30, List.forall_mem_cons.mpr ⟨lw_p31, fun _ h => absurd h List.not_mem_nil⟩⟩⟩⟩⟩⟩⟩⟩⟩⟩⟩⟩⟩⟩⟩⟩
theorem lw_p32 : lw_okq (⟨"ThirdDayModel", "figure", "(II)I"⟩, 30) := ⟨⟨by decide +kernel, by decide +kernel⟩, List.mem_of_getElem? (i := 751) (by decide +kernel), List.mem_of_getElem? (i := 935) (by decide +kernel), List.mem_of_getElem? (i := 936) (by decide +kernel)⟩
theorem lw_p33 : lw_okq (⟨"ThirdDayModel", "isFigure", "(II)Z"⟩, 30) := ⟨⟨by decide +kernel, by decide +kernel⟩, List.mem_of_getElem? (i := 751) (by decide +kernel), List.mem_of_getElem? (i := 939) (by decide +kernel), List.mem_of_getElem? (i := 940) (by decide +kernel)⟩
theorem lw_p34 : lw_okq (⟨"ThirdDayModel", "readsMan", "()Z"⟩, 30) := ⟨⟨by decide +kernel, by decide +kernel⟩, List.mem_of_getElem? (i := 751) (by decide +kernel), List.mem_of_getElem? (i := 943) (by decide +kernel), List.mem_of_getElem? (i := 944) (by decide +kernel)⟩
theorem lw_p35 : lw_okq (⟨"ThirdDayModel", "isMan", "(I)Z"⟩, 30) := ⟨⟨by decide +kernel, by decide +kernel⟩, List.mem_of_getElem? (i := 751) (by decide +kernel), List.mem_of_getElem? (i := 958) (by decide +kernel), List.mem_of_getElem? (i := 959) (by decide +kernel)⟩
theorem lw_p36 : lw_okq (⟨"ThirdDayModel", "toldOf", "(II)I"⟩, 30) := ⟨⟨by decide +kernel, by decide +kernel⟩, List.mem_of_getElem? (i := 751) (by decide +kernel), List.mem_of_getElem? (i := 963) (by decide +kernel), List.mem_of_getElem? (i := 964) (by decide +kernel)⟩
theorem lw_p37 : lw_okq (⟨"ThirdDayModel", "burns", "(II)I"⟩, 30) := ⟨⟨by decide +kernel, by decide +kernel⟩, List.mem_of_getElem? (i := 751) (by decide +kernel), List.mem_of_getElem? (i := 973) (by decide +kernel), List.mem_of_getElem? (i := 974) (by decide +kernel)⟩
theorem lw_p38 : lw_okq (⟨"ThirdDayModel", "burnsBy", "(IIII)I"⟩, 30) := ⟨⟨by decide +kernel, by decide +kernel⟩, List.mem_of_getElem? (i := 751) (by decide +kernel), List.mem_of_getElem? (i := 977) (by decide +kernel), List.mem_of_getElem? (i := 978) (by decide +kernel)⟩
theorem lw_p39 : lw_okq (⟨"ThirdDayModel", "plainFeels", "(II)I"⟩, 30) := ⟨⟨by decide +kernel, by decide +kernel⟩, List.mem_of_getElem? (i := 751) (by decide +kernel), List.mem_of_getElem? (i := 981) (by decide +kernel), List.mem_of_getElem? (i := 982) (by decide +kernel)⟩
theorem lw_p40 : lw_okq (⟨"ThirdDayModel", "doesCome", "(II)Z"⟩, 30) := ⟨⟨by decide +kernel, by decide +kernel⟩, List.mem_of_getElem? (i := 751) (by decide +kernel), List.mem_of_getElem? (i := 988) (by decide +kernel), List.mem_of_getElem? (i := 989) (by decide +kernel)⟩
theorem lw_p41 : lw_okq (⟨"ThirdDayModel", "comesBy", "(III)Z"⟩, 30) := ⟨⟨by decide +kernel, by decide +kernel⟩, List.mem_of_getElem? (i := 751) (by decide +kernel), List.mem_of_getElem? (i := 992) (by decide +kernel), List.mem_of_getElem? (i := 993) (by decide +kernel)⟩
theorem lw_p42 : lw_okq (⟨"ThirdDayModel", "isClean", "(III)Z"⟩, 30) := ⟨⟨by decide +kernel, by decide +kernel⟩, List.mem_of_getElem? (i := 751) (by decide +kernel), List.mem_of_getElem? (i := 996) (by decide +kernel), List.mem_of_getElem? (i := 997) (by decide +kernel)⟩
theorem lw_p43 : lw_okq (⟨"ThirdDayModel", "bearable", "(II)I"⟩, 30) := ⟨⟨by decide +kernel, by decide +kernel⟩, List.mem_of_getElem? (i := 751) (by decide +kernel), List.mem_of_getElem? (i := 1000) (by decide +kernel), List.mem_of_getElem? (i := 1001) (by decide +kernel)⟩
theorem lw_p44 : lw_okq (⟨"ThirdDayModel", "isOf", "(II)Z"⟩, 30) := ⟨⟨by decide +kernel, by decide +kernel⟩, List.mem_of_getElem? (i := 751) (by decide +kernel), List.mem_of_getElem? (i := 1008) (by decide +kernel), List.mem_of_getElem? (i := 1009) (by decide +kernel)⟩
theorem lw_p45 : lw_okq (⟨"ThirdDayModel", "moreHeat", "(I)I"⟩, 30) := ⟨⟨by decide +kernel, by decide +kernel⟩, List.mem_of_getElem? (i := 751) (by decide +kernel), List.mem_of_getElem? (i := 1012) (by decide +kernel), List.mem_of_getElem? (i := 1013) (by decide +kernel)⟩
theorem lw_p46 : lw_okq (⟨"ThirdDayModel", "awayBut", "(I)I"⟩, 30) := ⟨⟨by decide +kernel, by decide +kernel⟩, List.mem_of_getElem? (i := 751) (by decide +kernel), List.mem_of_getElem? (i := 1016) (by decide +kernel), List.mem_of_getElem? (i := 1017) (by decide +kernel)⟩
theorem lw_p47 : lw_okq (⟨"ThirdDayModel", "keepPast", "()V"⟩, 30) := ⟨⟨by decide +kernel, by decide +kernel⟩, List.mem_of_getElem? (i := 751) (by decide +kernel), List.mem_of_getElem? (i := 1025) (by decide +kernel), List.mem_of_getElem? (i := 1026) (by decide +kernel)⟩
def lw_privs_3 : List (MethodName × Nat) := [(⟨"ThirdDayModel", "figure", "(II)I"⟩, 30), (⟨"ThirdDayModel", "isFigure", "(II)Z"⟩, 30), (⟨"ThirdDayModel", "readsMan", "()Z"⟩, 30), (⟨"ThirdDayModel", "isMan", "(I)Z"⟩, 30), (⟨"ThirdDayModel", "toldOf", "(II)I"⟩, 30), (⟨"ThirdDayModel", "burns", "(II)I"⟩, 30), (⟨"ThirdDayModel", "burnsBy", "(IIII)I"⟩, 30), (⟨"ThirdDayModel", "plainFeels", "(II)I"⟩, 30), (⟨"ThirdDayModel", "doesCome", "(II)Z"⟩, 30), (⟨"ThirdDayModel", "comesBy", "(III)Z"⟩, 30), (⟨"ThirdDayModel", "isClean", "(III)Z"⟩, 30), (⟨"ThirdDayModel", "bearable", "(II)I"⟩, 30), (⟨"ThirdDayModel", "isOf", "(II)Z"⟩, 30), (⟨"ThirdDayModel", "moreHeat", "(I)I"⟩, 30), (⟨"ThirdDayModel", "awayBut", "(I)I"⟩, 30), (⟨"ThirdDayModel", "keepPast", "()V"⟩, 30)]
theorem lw_r3 : ∀ q ∈ lw_privs_3, lw_okq q := List.forall_mem_cons.mpr ⟨lw_p32, List.forall_mem_cons.mpr ⟨lw_p33, List.forall_mem_cons.mpr ⟨lw_p34, List.forall_mem_cons.mpr ⟨lw_p35, List.forall_mem_cons.mpr ⟨lw_p36, List.forall_mem_cons.mpr ⟨lw_p37, List.forall_mem_cons.mpr ⟨lw_p38, List.forall_mem_cons.mpr ⟨lw_p39, List.forall_mem_cons.mpr ⟨lw_p40, List.forall_mem_cons.mpr ⟨lw_p41, List.forall_mem_cons.mpr ⟨lw_p42, List.forall_mem_cons.mpr ⟨lw_p43, List.forall_mem_cons.mpr ⟨lw_p44, List.forall_mem_cons.mpr ⟨lw_p45, List.forall_mem_cons.mpr ⟨lw_p46, List.forall_mem_cons.mpr ⟨lw_p47, fun _ h => absurd h List.not_mem_nil⟩⟩⟩⟩⟩⟩⟩⟩⟩⟩⟩⟩⟩⟩⟩⟩
theorem lw_p48 : lw_okq (⟨"ThirdDayModel", "isDone", "(I)Z"⟩, 30) := ⟨⟨by decide +kernel, by decide +kernel⟩, List.mem_of_getElem? (i := 751) (by decide +kernel), List.mem_of_getElem? (i := 1036) (by decide +kernel), List.mem_of_getElem? (i := 1037) (by decide +kernel)⟩
theorem lw_p49 : lw_okq (⟨"ThirdDayModel", "tryAt", "(II)I"⟩, 30) := ⟨⟨by decide +kernel, by decide +kernel⟩, List.mem_of_getElem? (i := 751) (by decide +kernel), List.mem_of_getElem? (i := 1047) (by decide +kernel), List.mem_of_getElem? (i := 1048) (by decide +kernel)⟩
theorem lw_p50 : lw_okq (⟨"ThirdDayModel", "tellsAt", "(III)I"⟩, 30) := ⟨⟨by decide +kernel, by decide +kernel⟩, List.mem_of_getElem? (i := 751) (by decide +kernel), List.mem_of_getElem? (i := 1051) (by decide +kernel), List.mem_of_getElem? (i := 1052) (by decide +kernel)⟩
theorem lw_p51 : lw_okq (⟨"ThirdDayModel", "isWrong", "(II)Z"⟩, 30) := ⟨⟨by decide +kernel, by decide +kernel⟩, List.mem_of_getElem? (i := 751) (by decide +kernel), List.mem_of_getElem? (i := 1055) (by decide +kernel), List.mem_of_getElem? (i := 1056) (by decide +kernel)⟩
theorem lw_p52 : lw_okq (⟨"ThirdDayModel", "copyCourt", "(II)V"⟩, 30) := ⟨⟨by decide +kernel, by decide +kernel⟩, List.mem_of_getElem? (i := 751) (by decide +kernel), List.mem_of_getElem? (i := 1068) (by decide +kernel), List.mem_of_getElem? (i := 1069) (by decide +kernel)⟩
theorem lw_p53 : lw_okq (⟨"ThirdDayModel", "wrongBy", "(IZ)I"⟩, 30) := ⟨⟨by decide +kernel, by decide +kernel⟩, List.mem_of_getElem? (i := 751) (by decide +kernel), List.mem_of_getElem? (i := 1085) (by decide +kernel), List.mem_of_getElem? (i := 1086) (by decide +kernel)⟩
theorem lw_p54 : lw_okq (⟨"ThirdDayModel", "tellParts", "(JJ)I"⟩, 30) := ⟨⟨by decide +kernel, by decide +kernel⟩, List.mem_of_getElem? (i := 751) (by decide +kernel), List.mem_of_getElem? (i := 1101) (by decide +kernel), List.mem_of_getElem? (i := 1102) (by decide +kernel)⟩
theorem lw_p55 : lw_okq (⟨"ThirdDayModel", "layLine", "()V"⟩, 30) := ⟨⟨by decide +kernel, by decide +kernel⟩, List.mem_of_getElem? (i := 751) (by decide +kernel), List.mem_of_getElem? (i := 1109) (by decide +kernel), List.mem_of_getElem? (i := 1110) (by decide +kernel)⟩
theorem lw_p56 : lw_okq (⟨"ThirdDayModel", "wrongInLine", "()I"⟩, 30) := ⟨⟨by decide +kernel, by decide +kernel⟩, List.mem_of_getElem? (i := 751) (by decide +kernel), List.mem_of_getElem? (i := 1113) (by decide +kernel), List.mem_of_getElem? (i := 1114) (by decide +kernel)⟩
theorem lw_p57 : lw_okq (⟨"ThirdDayModel", "layTried", "()V"⟩, 30) := ⟨⟨by decide +kernel, by decide +kernel⟩, List.mem_of_getElem? (i := 751) (by decide +kernel), List.mem_of_getElem? (i := 1117) (by decide +kernel), List.mem_of_getElem? (i := 1118) (by decide +kernel)⟩
theorem lw_p58 : lw_okq (⟨"ThirdDayModel", "nextLine", "()Z"⟩, 30) := ⟨⟨by decide +kernel, by decide +kernel⟩, List.mem_of_getElem? (i := 751) (by decide +kernel), List.mem_of_getElem? (i := 1121) (by decide +kernel), List.mem_of_getElem? (i := 1122) (by decide +kernel)⟩
theorem lw_p59 : lw_okq (⟨"ThirdDayModel", "swapLine", "(II)V"⟩, 30) := ⟨⟨by decide +kernel, by decide +kernel⟩, List.mem_of_getElem? (i := 751) (by decide +kernel), List.mem_of_getElem? (i := 1125) (by decide +kernel), List.mem_of_getElem? (i := 1126) (by decide +kernel)⟩
theorem lw_p60 : lw_okq (⟨"ThirdDayModel", "noPairs", "(II)I"⟩, 30) := ⟨⟨by decide +kernel, by decide +kernel⟩, List.mem_of_getElem? (i := 751) (by decide +kernel), List.mem_of_getElem? (i := 1141) (by decide +kernel), List.mem_of_getElem? (i := 1142) (by decide +kernel)⟩
theorem lw_p61 : lw_okq (⟨"ThirdDayModel", "fitting", "(I)I"⟩, 30) := ⟨⟨by decide +kernel, by decide +kernel⟩, List.mem_of_getElem? (i := 751) (by decide +kernel), List.mem_of_getElem? (i := 1145) (by decide +kernel), List.mem_of_getElem? (i := 1146) (by decide +kernel)⟩
theorem lw_p62 : lw_okq (⟨"ThirdDayModel", "greatestPart", "(II)I"⟩, 30) := ⟨⟨by decide +kernel, by decide +kernel⟩, List.mem_of_getElem? (i := 751) (by decide +kernel), List.mem_of_getElem? (i := 1156) (by decide +kernel), List.mem_of_getElem? (i := 1157) (by decide +kernel)⟩
theorem lw_p63 : lw_okq (⟨"ThirdDayModel", "isTold", "(IIII)Z"⟩, 30) := ⟨⟨by decide +kernel, by decide +kernel⟩, List.mem_of_getElem? (i := 751) (by decide +kernel), List.mem_of_getElem? (i := 1164) (by decide +kernel), List.mem_of_getElem? (i := 1165) (by decide +kernel)⟩
def lw_privs_4 : List (MethodName × Nat) := [(⟨"ThirdDayModel", "isDone", "(I)Z"⟩, 30), (⟨"ThirdDayModel", "tryAt", "(II)I"⟩, 30), (⟨"ThirdDayModel", "tellsAt", "(III)I"⟩, 30), (⟨"ThirdDayModel", "isWrong", "(II)Z"⟩, 30), (⟨"ThirdDayModel", "copyCourt", "(II)V"⟩, 30), (⟨"ThirdDayModel", "wrongBy", "(IZ)I"⟩, 30), (⟨"ThirdDayModel", "tellParts", "(JJ)I"⟩, 30), (⟨"ThirdDayModel", "layLine", "()V"⟩, 30), (⟨"ThirdDayModel", "wrongInLine", "()I"⟩, 30), (⟨"ThirdDayModel", "layTried", "()V"⟩, 30), (⟨"ThirdDayModel", "nextLine", "()Z"⟩, 30), (⟨"ThirdDayModel", "swapLine", "(II)V"⟩, 30), (⟨"ThirdDayModel", "noPairs", "(II)I"⟩, 30), (⟨"ThirdDayModel", "fitting", "(I)I"⟩, 30), (⟨"ThirdDayModel", "greatestPart", "(II)I"⟩, 30), (⟨"ThirdDayModel", "isTold", "(IIII)Z"⟩, 30)]
theorem lw_r4 : ∀ q ∈ lw_privs_4, lw_okq q := List.forall_mem_cons.mpr ⟨lw_p48, List.forall_mem_cons.mpr ⟨lw_p49, List.forall_mem_cons.mpr ⟨lw_p50, List.forall_mem_cons.mpr ⟨lw_p51, List.forall_mem_cons.mpr ⟨lw_p52, List.forall_mem_cons.mpr ⟨lw_p53, List.forall_mem_cons.mpr ⟨lw_p54, List.forall_mem_cons.mpr ⟨lw_p55, List.forall_mem_cons.mpr ⟨lw_p56, List.forall_mem_cons.mpr ⟨lw_p57, List.forall_mem_cons.mpr ⟨lw_p58, List.forall_mem_cons.mpr ⟨lw_p59, List.forall_mem_cons.mpr ⟨lw_p60, List.forall_mem_cons.mpr ⟨lw_p61, List.forall_mem_cons.mpr ⟨lw_p62, List.forall_mem_cons.mpr ⟨lw_p63, fun _ h => absurd h List.not_mem_nil⟩⟩⟩⟩⟩⟩⟩⟩⟩⟩⟩⟩⟩⟩⟩⟩
theorem lw_p64 : lw_okq (⟨"ThirdDayModel", "tellsBy", "(IIII)I"⟩, 30) := ⟨⟨by decide +kernel, by decide +kernel⟩, List.mem_of_getElem? (i := 751) (by decide +kernel), List.mem_of_getElem? (i := 1168) (by decide +kernel), List.mem_of_getElem? (i := 1169) (by decide +kernel)⟩
theorem lw_p65 : lw_okq (⟨"ThirdDayModel", "foulBy", "(I)I"⟩, 30) := ⟨⟨by decide +kernel, by decide +kernel⟩, List.mem_of_getElem? (i := 751) (by decide +kernel), List.mem_of_getElem? (i := 1181) (by decide +kernel), List.mem_of_getElem? (i := 1182) (by decide +kernel)⟩
theorem lw_p66 : lw_okq (⟨"ThirdDayModel", "isHere", "(I)Z"⟩, 30) := ⟨⟨by decide +kernel, by decide +kernel⟩, List.mem_of_getElem? (i := 751) (by decide +kernel), List.mem_of_getElem? (i := 1190) (by decide +kernel), List.mem_of_getElem? (i := 1191) (by decide +kernel)⟩
theorem lw_p67 : lw_okq (⟨"ThirdDayModel", "cleanWays", "(II)I"⟩, 30) := ⟨⟨by decide +kernel, by decide +kernel⟩, List.mem_of_getElem? (i := 751) (by decide +kernel), List.mem_of_getElem? (i := 1194) (by decide +kernel), List.mem_of_getElem? (i := 1195) (by decide +kernel)⟩
theorem lw_p68 : lw_okq (⟨"ThirdDayModel", "countOf", "(I)I"⟩, 30) := ⟨⟨by decide +kernel, by decide +kernel⟩, List.mem_of_getElem? (i := 751) (by decide +kernel), List.mem_of_getElem? (i := 1228) (by decide +kernel), List.mem_of_getElem? (i := 1229) (by decide +kernel)⟩
theorem lw_p69 : lw_okq (⟨"ThirdDayModel", "sumOf", "(I)I"⟩, 30) := ⟨⟨by decide +kernel, by decide +kernel⟩, List.mem_of_getElem? (i := 751) (by decide +kernel), List.mem_of_getElem? (i := 1232) (by decide +kernel), List.mem_of_getElem? (i := 1233) (by decide +kernel)⟩
theorem lw_p70 : lw_okq (⟨"ThirdDayModel", "thereOf", "(I)I"⟩, 30) := ⟨⟨by decide +kernel, by decide +kernel⟩, List.mem_of_getElem? (i := 751) (by decide +kernel), List.mem_of_getElem? (i := 1236) (by decide +kernel), List.mem_of_getElem? (i := 1237) (by decide +kernel)⟩
def lw_privs_5 : List (MethodName × Nat) := [(⟨"ThirdDayModel", "tellsBy", "(IIII)I"⟩, 30), (⟨"ThirdDayModel", "foulBy", "(I)I"⟩, 30), (⟨"ThirdDayModel", "isHere", "(I)Z"⟩, 30), (⟨"ThirdDayModel", "cleanWays", "(II)I"⟩, 30), (⟨"ThirdDayModel", "countOf", "(I)I"⟩, 30), (⟨"ThirdDayModel", "sumOf", "(I)I"⟩, 30), (⟨"ThirdDayModel", "thereOf", "(I)I"⟩, 30)]
theorem lw_r5 : ∀ q ∈ lw_privs_5, lw_okq q := List.forall_mem_cons.mpr ⟨lw_p64, List.forall_mem_cons.mpr ⟨lw_p65, List.forall_mem_cons.mpr ⟨lw_p66, List.forall_mem_cons.mpr ⟨lw_p67, List.forall_mem_cons.mpr ⟨lw_p68, List.forall_mem_cons.mpr ⟨lw_p69, List.forall_mem_cons.mpr ⟨lw_p70, fun _ h => absurd h List.not_mem_nil⟩⟩⟩⟩⟩⟩⟩
def lw_privs : List (MethodName × Nat) := lw_privs_1 ++ (lw_privs_2 ++ (lw_privs_3 ++ (lw_privs_4 ++ (lw_privs_5))))
def lw_tbl : List Cond := k2_sels lw_privs ++ tables_1
theorem lw_privs_ok : ∀ q ∈ lw_privs, lw_okq q := by
  show ∀ q ∈ lw_privs_1 ++ (lw_privs_2 ++ (lw_privs_3 ++ (lw_privs_4 ++ (lw_privs_5)))), lw_okq q
  exact List.forall_mem_append.mpr ⟨lw_r1, List.forall_mem_append.mpr ⟨lw_r2, List.forall_mem_append.mpr ⟨lw_r3, List.forall_mem_append.mpr ⟨lw_r4, lw_r5⟩⟩⟩⟩
-- ===== end of PART A; then your names; then what follows =====
end
section
def RX0 : String := "ThirdDay$Court"
def TX0 : u_T := fun k => match k with
  | 0 => ("ThirdDay$Court", "men", "[LThirdDay$Man;", true)
  | 1 => ("ThirdDay$Court", "supposed", "LThirdDay$Man;", true)
  | 2 => ("ThirdDay$Court", "deeds", "LThirdDay$Deeds;", true)
  | 3 => ("ThirdDay$Court", "size", "I", false)
  | 4 => ("ThirdDay$Court", "pounds", "I", false)
  | 5 => ("ThirdDay$Court", "mercy", "I", false)
  | 6 => ("ThirdDay$Court", "heals", "I", false)
  | 7 => ("ThirdDay$Court", "king", "I", false)
  | _ => ("ThirdDay$Court", "heat", "I", false)
def tyX0 : Nat → FieldType := fun k => match k with
  | 0 => .array (.object "ThirdDay$Man")
  | 1 => .object "ThirdDay$Man"
  | 2 => .object "ThirdDay$Deeds"
  | 3 => .int
  | 4 => .int
  | 5 => .int
  | 6 => .int
  | 7 => .int
  | _ => .int
theorem nmX0 : ∀ a, a < 9 → ∀ b, b < 9 → a ≠ b → (TX0 a).2.1 ≠ (TX0 b).2.1 := by decide +kernel
theorem tyX0_ok : ∀ k, k < 9 → parseFieldDescriptor (TX0 k).2.2.1 = some (tyX0 k) := by decide +kernel
abbrev cX0_init : ByteArray := prog_2_method_1_code
def yX0_init : MethodName := ⟨RX0, "<init>", "()V"⟩
abbrev cX0_assemble : ByteArray := prog_2_method_2_code
def yX0_assemble : MethodName := ⟨RX0, "assemble", "(LThirdDay$Reader;)V"⟩
abbrev cX0_detail : ByteArray := prog_2_method_3_code
def yX0_detail : MethodName := ⟨RX0, "detail", "(LThirdDay$Man;I)I"⟩
abbrev cX0_perform : ByteArray := prog_2_method_4_code
def yX0_perform : MethodName := ⟨RX0, "perform", "(II)V"⟩
abbrev cX0_actAgain : ByteArray := prog_2_method_5_code
def yX0_actAgain : MethodName := ⟨RX0, "actAgain", "()V"⟩
abbrev cX0_act : ByteArray := prog_2_method_6_code
def yX0_act : MethodName := ⟨RX0, "act", "(II)V"⟩
abbrev cX0_heatBehind : ByteArray := prog_2_method_7_code
def yX0_heatBehind : MethodName := ⟨RX0, "heatBehind", "(III)I"⟩
abbrev cX0_keptHeat : ByteArray := prog_2_method_8_code
def yX0_keptHeat : MethodName := ⟨RX0, "keptHeat", "(I)I"⟩
abbrev cX0_felt : ByteArray := prog_2_method_9_code
def yX0_felt : MethodName := ⟨RX0, "felt", "(LThirdDay$Man;I)I"⟩
abbrev cX0_burn : ByteArray := prog_2_method_10_code
def yX0_burn : MethodName := ⟨RX0, "burn", "(LThirdDay$Man;I)I"⟩
abbrev cX0_lacking : ByteArray := prog_2_method_11_code
def yX0_lacking : MethodName := ⟨RX0, "lacking", "(LThirdDay$Man;I)I"⟩
abbrev cX0_verdict : ByteArray := prog_2_method_12_code
def yX0_verdict : MethodName := ⟨RX0, "verdict", "(LThirdDay$Man;I)I"⟩
abbrev cX0_heatToSpare : ByteArray := prog_2_method_13_code
def yX0_heatToSpare : MethodName := ⟨RX0, "heatToSpare", "(LThirdDay$Man;)I"⟩
abbrev cX0_mustBeCleared : ByteArray := prog_2_method_14_code
def yX0_mustBeCleared : MethodName := ⟨RX0, "mustBeCleared", "(LThirdDay$Man;)Z"⟩
abbrev cX0_salveNeeded : ByteArray := prog_2_method_15_code
def yX0_salveNeeded : MethodName := ⟨RX0, "salveNeeded", "(LThirdDay$Man;)I"⟩
abbrev cX0_cleanChances : ByteArray := prog_2_method_16_code
def yX0_cleanChances : MethodName := ⟨RX0, "cleanChances", "(LThirdDay$Man;I)I"⟩
abbrev cX0_likeOf : ByteArray := prog_2_method_17_code
def yX0_likeOf : MethodName := ⟨RX0, "likeOf", "(LThirdDay$Man;)LThirdDay$Man;"⟩
abbrev cX0_likeButPlain : ByteArray := prog_2_method_18_code
def yX0_likeButPlain : MethodName := ⟨RX0, "likeButPlain", "(LThirdDay$Man;)LThirdDay$Man;"⟩
abbrev cX0_wouldTell : ByteArray := prog_2_method_19_code
def yX0_wouldTell : MethodName := ⟨RX0, "wouldTell", "(LThirdDay$Man;LThirdDay$Row;)Z"⟩
abbrev cX0_guiltyWrongly : ByteArray := prog_2_method_20_code
def yX0_guiltyWrongly : MethodName := ⟨RX0, "guiltyWrongly", "(I)I"⟩
abbrev cX0_allWrongly : ByteArray := prog_2_method_21_code
def yX0_allWrongly : MethodName := ⟨RX0, "allWrongly", "(I)I"⟩
abbrev cX0_wouldWrong : ByteArray := prog_2_method_22_code
def yX0_wouldWrong : MethodName := ⟨RX0, "wouldWrong", "(LThirdDay$Man;I)Z"⟩
abbrev cX0_foulOnes : ByteArray := prog_2_method_23_code
def yX0_foulOnes : MethodName := ⟨RX0, "foulOnes", "(I)I"⟩
abbrev cX0_heatsTelling : ByteArray := prog_2_method_24_code
def yX0_heatsTelling : MethodName := ⟨RX0, "heatsTelling", "(LThirdDay$Man;I)I"⟩
abbrev cX0_heatsFitting : ByteArray := prog_2_method_25_code
def yX0_heatsFitting : MethodName := ⟨RX0, "heatsFitting", "(LThirdDay$Row;)I"⟩
abbrev cX0_greatestPart : ByteArray := prog_2_method_26_code
def yX0_greatestPart : MethodName := ⟨RX0, "greatestPart", "(LThirdDay$Man;I)I"⟩
abbrev cX0_absent : ByteArray := prog_2_method_27_code
def yX0_absent : MethodName := ⟨RX0, "absent", "()I"⟩
abbrev cX0_triedOnes : ByteArray := prog_2_method_28_code
def yX0_triedOnes : MethodName := ⟨RX0, "triedOnes", "()I"⟩
abbrev cX0_toldClean : ByteArray := prog_2_method_29_code
def yX0_toldClean : MethodName := ⟨RX0, "toldClean", "()I"⟩
abbrev cX0_toldWrongly : ByteArray := prog_2_method_30_code
def yX0_toldWrongly : MethodName := ⟨RX0, "toldWrongly", "()I"⟩
abbrev cX0_allSalve : ByteArray := prog_2_method_31_code
def yX0_allSalve : MethodName := ⟨RX0, "allSalve", "()I"⟩
abbrev cX0_ploughmen : ByteArray := prog_2_method_32_code
def yX0_ploughmen : MethodName := ⟨RX0, "ploughmen", "()I"⟩
def RX1 : String := "ThirdDay$Deeds"
def TX1 : u_T := fun k => match k with
  | 0 => ("ThirdDay$Deeds", "whats", "[I", true)
  | 1 => ("ThirdDay$Deeds", "hows", "[I", true)
  | _ => ("ThirdDay$Deeds", "size", "I", false)
def tyX1 : Nat → FieldType := fun k => match k with
  | 0 => .array .int
  | 1 => .array .int
  | _ => .int
theorem nmX1 : ∀ a, a < 3 → ∀ b, b < 3 → a ≠ b → (TX1 a).2.1 ≠ (TX1 b).2.1 := by decide +kernel
theorem tyX1_ok : ∀ k, k < 3 → parseFieldDescriptor (TX1 k).2.2.1 = some (tyX1 k) := by decide +kernel
abbrev cX1_init : ByteArray := prog_3_method_1_code
def yX1_init : MethodName := ⟨RX1, "<init>", "(I)V"⟩
abbrev cX1_hasRoomFor : ByteArray := prog_3_method_2_code
def yX1_hasRoomFor : MethodName := ⟨RX1, "hasRoomFor", "(I)Z"⟩
abbrev cX1_add : ByteArray := prog_3_method_3_code
def yX1_add : MethodName := ⟨RX1, "add", "(II)V"⟩
abbrev cX1_become : ByteArray := prog_3_method_4_code
def yX1_become : MethodName := ⟨RX1, "become", "(LThirdDay$Deeds;)V"⟩
def RX2 : String := "ThirdDay$Duel"
def TX2 : u_T := fun k => match k with
  | 0 => ("ThirdDay$Duel", "worth", "[I", false)
  | _ => ("ThirdDay$Duel", "worthAhead", "[I", false)
def tyX2 : Nat → FieldType := fun k => match k with
  | 0 => .array .int
  | _ => .array .int
theorem nmX2 : ∀ a, a < 2 → ∀ b, b < 2 → a ≠ b → (TX2 a).2.1 ≠ (TX2 b).2.1 := by decide +kernel
theorem tyX2_ok : ∀ k, k < 2 → parseFieldDescriptor (TX2 k).2.2.1 = some (tyX2 k) := by decide +kernel
abbrev cX2_init : ByteArray := prog_4_method_1_code
def yX2_init : MethodName := ⟨RX2, "<init>", "()V"⟩
abbrev cX2_foulAtLast : ByteArray := prog_4_method_2_code
def yX2_foulAtLast : MethodName := ⟨RX2, "foulAtLast", "(LThirdDay$Court;I)I"⟩
abbrev cX2_chosen : ByteArray := prog_4_method_3_code
def yX2_chosen : MethodName := ⟨RX2, "chosen", "(IZ)I"⟩
def RX3 : String := "ThirdDay$Man"
def TX3 : u_T := fun k => match k with
  | 0 => ("ThirdDay$Man", "kind", "I", false)
  | 1 => ("ThirdDay$Man", "guilt", "I", false)
  | 2 => ("ThirdDay$Man", "belief", "I", false)
  | 3 => ("ThirdDay$Man", "hand", "I", false)
  | 4 => ("ThirdDay$Man", "salve", "I", false)
  | 5 => ("ThirdDay$Man", "verdict", "I", false)
  | _ => ("ThirdDay$Man", "wronged", "Z", false)
def tyX3 : Nat → FieldType := fun k => match k with
  | 0 => .int
  | 1 => .int
  | 2 => .int
  | 3 => .int
  | 4 => .int
  | 5 => .int
  | _ => .boolean
theorem nmX3 : ∀ a, a < 7 → ∀ b, b < 7 → a ≠ b → (TX3 a).2.1 ≠ (TX3 b).2.1 := by decide +kernel
theorem tyX3_ok : ∀ k, k < 7 → parseFieldDescriptor (TX3 k).2.2.1 = some (tyX3 k) := by decide +kernel
abbrev cX3_init : ByteArray := prog_5_method_1_code
def yX3_init : MethodName := ⟨RX3, "<init>", "()V"⟩
abbrev cX3_become : ByteArray := prog_5_method_2_code
def yX3_become : MethodName := ⟨RX3, "become", "(IIII)V"⟩
abbrev cX3_forgetDeeds : ByteArray := prog_5_method_3_code
def yX3_forgetDeeds : MethodName := ⟨RX3, "forgetDeeds", "()V"⟩
abbrev cX3_isTried : ByteArray := prog_5_method_4_code
def yX3_isTried : MethodName := ⟨RX3, "isTried", "()Z"⟩
abbrev cX3_isOf : ByteArray := prog_5_method_5_code
def yX3_isOf : MethodName := ⟨RX3, "isOf", "(I)Z"⟩
abbrev cX3_hardness : ByteArray := prog_5_method_6_code
def yX3_hardness : MethodName := ⟨RX3, "hardness", "()I"⟩
abbrev cX3_appears : ByteArray := prog_5_method_7_code
def yX3_appears : MethodName := ⟨RX3, "appears", "(I)Z"⟩
abbrev cX3_wrongedBy : ByteArray := prog_5_method_8_code
def yX3_wrongedBy : MethodName := ⟨RX3, "wrongedBy", "(I)Z"⟩
abbrev cX3_dueByLot : ByteArray := prog_5_method_9_code
def yX3_dueByLot : MethodName := ⟨RX3, "dueByLot", "()I"⟩
def RX4 : String := "ThirdDay$Orders"
def TX4 : u_T := fun k => match k with
  | 0 => ("ThirdDay$Orders", "path", "[I", true)
  | _ => ("ThirdDay$Orders", "fewest", "I", false)
def tyX4 : Nat → FieldType := fun k => match k with
  | 0 => .array .int
  | _ => .int
theorem nmX4 : ∀ a, a < 2 → ∀ b, b < 2 → a ≠ b → (TX4 a).2.1 ≠ (TX4 b).2.1 := by decide +kernel
theorem tyX4_ok : ∀ k, k < 2 → parseFieldDescriptor (TX4 k).2.2.1 = some (tyX4 k) := by decide +kernel
abbrev cX4_init : ByteArray := prog_6_method_1_code
def yX4_init : MethodName := ⟨RX4, "<init>", "()V"⟩
abbrev cX4_layBest : ByteArray := prog_6_method_2_code
def yX4_layBest : MethodName := ⟨RX4, "layBest", "(LThirdDay$Court;LThirdDay$Row;)I"⟩
abbrev cX4_goOn : ByteArray := prog_6_method_3_code
def yX4_goOn : MethodName := ⟨RX4, "goOn", "(LThirdDay$Court;LThirdDay$Row;IIII)V"⟩
def RX5 : String := "ThirdDay$Reader"
def TX5 : u_T := fun k => match k with
  | 0 => ("ThirdDay$Reader", "numbers", "[I", true)
  | 1 => ("ThirdDay$Reader", "taken", "I", false)
  | 2 => ("ThirdDay$Reader", "men", "I", false)
  | _ => ("ThirdDay$Reader", "place", "I", false)
def tyX5 : Nat → FieldType := fun k => match k with
  | 0 => .array .int
  | 1 => .int
  | 2 => .int
  | _ => .int
theorem nmX5 : ∀ a, a < 4 → ∀ b, b < 4 → a ≠ b → (TX5 a).2.1 ≠ (TX5 b).2.1 := by decide +kernel
theorem tyX5_ok : ∀ k, k < 4 → parseFieldDescriptor (TX5 k).2.2.1 = some (tyX5 k) := by decide +kernel
abbrev cX5_init : ByteArray := prog_7_method_1_code
def yX5_init : MethodName := ⟨RX5, "<init>", "()V"⟩
abbrev cX5_read : ByteArray := prog_7_method_2_code
def yX5_read : MethodName := ⟨RX5, "read", "(LThirdDay$Row;)I"⟩
abbrev cX5_takeIron : ByteArray := prog_7_method_3_code
def yX5_takeIron : MethodName := ⟨RX5, "takeIron", "(LThirdDay$Row;)Z"⟩
abbrev cX5_takeMan : ByteArray := prog_7_method_4_code
def yX5_takeMan : MethodName := ⟨RX5, "takeMan", "(LThirdDay$Row;)Z"⟩
abbrev cX5_takeFigure : ByteArray := prog_7_method_5_code
def yX5_takeFigure : MethodName := ⟨RX5, "takeFigure", "(LThirdDay$Row;II)Z"⟩
abbrev cX5_take : ByteArray := prog_7_method_6_code
def yX5_take : MethodName := ⟨RX5, "take", "(I)V"⟩
abbrev cX5_passBlanks : ByteArray := prog_7_method_7_code
def yX5_passBlanks : MethodName := ⟨RX5, "passBlanks", "(LThirdDay$Row;)V"⟩
abbrev cX5_kindOf : ByteArray := prog_7_method_8_code
def yX5_kindOf : MethodName := ⟨RX5, "kindOf", "(I)I"⟩
def RX6 : String := "ThirdDay$Row"
def TX6 : u_T := fun k => match k with
  | 0 => ("ThirdDay$Row", "places", "[I", true)
  | _ => ("ThirdDay$Row", "size", "I", false)
def tyX6 : Nat → FieldType := fun k => match k with
  | 0 => .array .int
  | _ => .int
theorem nmX6 : ∀ a, a < 2 → ∀ b, b < 2 → a ≠ b → (TX6 a).2.1 ≠ (TX6 b).2.1 := by decide +kernel
theorem tyX6_ok : ∀ k, k < 2 → parseFieldDescriptor (TX6 k).2.2.1 = some (tyX6 k) := by decide +kernel
abbrev cX6_init : ByteArray := prog_8_method_1_code
def yX6_init : MethodName := ⟨RX6, "<init>", "(I)V"⟩
abbrev cX6_isMissing : ByteArray := prog_8_method_2_code
def yX6_isMissing : MethodName := ⟨RX6, "isMissing", "()Z"⟩
abbrev cX6_layOut : ByteArray := prog_8_method_3_code
def yX6_layOut : MethodName := ⟨RX6, "layOut", "(II)V"⟩
abbrev cX6_hasStretch : ByteArray := prog_8_method_4_code
def yX6_hasStretch : MethodName := ⟨RX6, "hasStretch", "(II)Z"⟩
abbrev cX6_sum : ByteArray := prog_8_method_5_code
def yX6_sum : MethodName := ⟨RX6, "sum", "()J"⟩
abbrev cX6_digestOnto : ByteArray := prog_8_method_6_code
def yX6_digestOnto : MethodName := ⟨RX6, "digestOnto", "(J)J"⟩
def RX7 : String := "ThirdDay"
def TX7 : u_T := fun k => match k with
  | 0 => ("ThirdDay", "rows", "[LThirdDay$Row;", true)
  | 1 => ("ThirdDay", "texts", "[LThirdDay$Row;", true)
  | 2 => ("ThirdDay", "reader", "LThirdDay$Reader;", true)
  | 3 => ("ThirdDay", "court", "LThirdDay$Court;", true)
  | 4 => ("ThirdDay", "kept", "[LThirdDay$Deeds;", true)
  | 5 => ("ThirdDay", "orders", "LThirdDay$Orders;", true)
  | 6 => ("ThirdDay", "turns", "LThirdDay$Duel;", true)
  | 7 => ("ThirdDay", "findingCounts", "[I", true)
  | 8 => ("ThirdDay", "latestFinding", "I", false)
  | 9 => ("ThirdDay", "told", "I", false)
  | 10 => ("ThirdDay", "upperTold", "J", false)
  | _ => ("ThirdDay", "lowerTold", "J", false)
def tyX7 : Nat → FieldType := fun k => match k with
  | 0 => .array (.object "ThirdDay$Row")
  | 1 => .array (.object "ThirdDay$Row")
  | 2 => .object "ThirdDay$Reader"
  | 3 => .object "ThirdDay$Court"
  | 4 => .array (.object "ThirdDay$Deeds")
  | 5 => .object "ThirdDay$Orders"
  | 6 => .object "ThirdDay$Duel"
  | 7 => .array .int
  | 8 => .int
  | 9 => .int
  | 10 => .long
  | _ => .long
theorem nmX7 : ∀ a, a < 12 → ∀ b, b < 12 → a ≠ b → (TX7 a).2.1 ≠ (TX7 b).2.1 := by decide +kernel
theorem tyX7_ok : ∀ k, k < 12 → parseFieldDescriptor (TX7 k).2.2.1 = some (tyX7 k) := by decide +kernel
abbrev cX7_init : ByteArray := prog_1_method_1_code
def yX7_init : MethodName := ⟨RX7, "<init>", "()V"⟩
abbrev cX7_row : ByteArray := prog_1_method_2_code
def yX7_row : MethodName := ⟨RX7, "row", "(II)I"⟩
abbrev cX7_lay : ByteArray := prog_1_method_3_code
def yX7_lay : MethodName := ⟨RX7, "lay", "(III)I"⟩
abbrev cX7_at : ByteArray := prog_1_method_4_code
def yX7_at : MethodName := ⟨RX7, "at", "(II)I"⟩
abbrev cX7_tear : ByteArray := prog_1_method_5_code
def yX7_tear : MethodName := ⟨RX7, "tear", "(I)I"⟩
abbrev cX7_copy : ByteArray := prog_1_method_6_code
def yX7_copy : MethodName := ⟨RX7, "copy", "(IIIII)I"⟩
abbrev cX7_mean : ByteArray := prog_1_method_7_code
def yX7_mean : MethodName := ⟨RX7, "mean", "(I)I"⟩
abbrev cX7_text : ByteArray := prog_1_method_8_code
def yX7_text : MethodName := ⟨RX7, "text", "(II)I"⟩
abbrev cX7_put : ByteArray := prog_1_method_9_code
def yX7_put : MethodName := ⟨RX7, "put", "(III)I"⟩
abbrev cX7_fault : ByteArray := prog_1_method_10_code
def yX7_fault : MethodName := ⟨RX7, "fault", "(I)I"⟩
abbrev cX7_court : ByteArray := prog_1_method_11_code
def yX7_court : MethodName := ⟨RX7, "court", "(I)I"⟩
abbrev cX7_man : ByteArray := prog_1_method_12_code
def yX7_man : MethodName := ⟨RX7, "man", "(II)I"⟩
abbrev cX7_mark : ByteArray := prog_1_method_13_code
def yX7_mark : MethodName := ⟨RX7, "mark", "(II)I"⟩
abbrev cX7_heat : ByteArray := prog_1_method_14_code
def yX7_heat : MethodName := ⟨RX7, "heat", "(I)I"⟩
abbrev cX7_salve : ByteArray := prog_1_method_15_code
def yX7_salve : MethodName := ⟨RX7, "salve", "(I)I"⟩
abbrev cX7_trial : ByteArray := prog_1_method_16_code
def yX7_trial : MethodName := ⟨RX7, "trial", "(I)I"⟩
abbrev cX7_undo : ByteArray := prog_1_method_17_code
def yX7_undo : MethodName := ⟨RX7, "undo", "(I)I"⟩
abbrev cX7_keep : ByteArray := prog_1_method_18_code
def yX7_keep : MethodName := ⟨RX7, "keep", "(I)I"⟩
abbrev cX7_on : ByteArray := prog_1_method_19_code
def yX7_on : MethodName := ⟨RX7, "on", "(I)I"⟩
abbrev cX7_comes : ByteArray := prog_1_method_20_code
def yX7_comes : MethodName := ⟨RX7, "comes", "()I"⟩
abbrev cX7_wrong : ByteArray := prog_1_method_21_code
def yX7_wrong : MethodName := ⟨RX7, "wrong", "(I)I"⟩
abbrev cX7_best : ByteArray := prog_1_method_22_code
def yX7_best : MethodName := ⟨RX7, "best", "()I"⟩
abbrev cX7_heats : ByteArray := prog_1_method_23_code
def yX7_heats : MethodName := ⟨RX7, "heats", "(II)I"⟩
abbrev cX7_tells : ByteArray := prog_1_method_24_code
def yX7_tells : MethodName := ⟨RX7, "tells", "(I)I"⟩
abbrev cX7_order : ByteArray := prog_1_method_25_code
def yX7_order : MethodName := ⟨RX7, "order", "(I)I"⟩
abbrev cX7_tried : ByteArray := prog_1_method_26_code
def yX7_tried : MethodName := ⟨RX7, "tried", "(I)I"⟩
abbrev cX7_least : ByteArray := prog_1_method_27_code
def yX7_least : MethodName := ⟨RX7, "least", "()I"⟩
abbrev cX7_fits : ByteArray := prog_1_method_28_code
def yX7_fits : MethodName := ⟨RX7, "fits", "(I)I"⟩
abbrev cX7_ask : ByteArray := prog_1_method_29_code
def yX7_ask : MethodName := ⟨RX7, "ask", "(I)I"⟩
abbrev cX7_hands : ByteArray := prog_1_method_30_code
def yX7_hands : MethodName := ⟨RX7, "hands", "(II)I"⟩
abbrev cX7_kinds : ByteArray := prog_1_method_31_code
def yX7_kinds : MethodName := ⟨RX7, "kinds", "(II)I"⟩
abbrev cX7_duel : ByteArray := prog_1_method_32_code
def yX7_duel : MethodName := ⟨RX7, "duel", "(I)I"⟩
abbrev cX7_odds : ByteArray := prog_1_method_33_code
def yX7_odds : MethodName := ⟨RX7, "odds", "(I)I"⟩
abbrev cX7_mid : ByteArray := prog_1_method_34_code
def yX7_mid : MethodName := ⟨RX7, "mid", "(I)I"⟩
abbrev cX7_lots : ByteArray := prog_1_method_35_code
def yX7_lots : MethodName := ⟨RX7, "lots", "(II)I"⟩
abbrev cX7_asked : ByteArray := prog_1_method_36_code
def yX7_asked : MethodName := ⟨RX7, "asked", "()I"⟩
abbrev cX7_upper : ByteArray := prog_1_method_37_code
def yX7_upper : MethodName := ⟨RX7, "upper", "()J"⟩
abbrev cX7_lower : ByteArray := prog_1_method_38_code
def yX7_lower : MethodName := ⟨RX7, "lower", "()J"⟩
abbrev cX7_count : ByteArray := prog_1_method_39_code
def yX7_count : MethodName := ⟨RX7, "count", "(I)I"⟩
abbrev cX7_finding : ByteArray := prog_1_method_40_code
def yX7_finding : MethodName := ⟨RX7, "finding", "()I"⟩
abbrev cX7_findings : ByteArray := prog_1_method_41_code
def yX7_findings : MethodName := ⟨RX7, "findings", "(I)I"⟩
abbrev cX7_digest : ByteArray := prog_1_method_42_code
def yX7_digest : MethodName := ⟨RX7, "digest", "()J"⟩
abbrev cX7_found : ByteArray := prog_1_method_43_code
def yX7_found : MethodName := ⟨RX7, "found", "(I)I"⟩
abbrev cX7_isOneOf : ByteArray := prog_1_method_44_code
def yX7_isOneOf : MethodName := ⟨RX7, "isOneOf", "([LThirdDay$Row;I)Z"⟩
abbrev cX7_isMan : ByteArray := prog_1_method_45_code
def yX7_isMan : MethodName := ⟨RX7, "isMan", "(I)Z"⟩
abbrev cX7_isKeptPlace : ByteArray := prog_1_method_46_code
def yX7_isKeptPlace : MethodName := ⟨RX7, "isKeptPlace", "(I)Z"⟩
abbrev cX7_missingRefusal : ByteArray := prog_1_method_47_code
def yX7_missingRefusal : MethodName := ⟨RX7, "missingRefusal", "([LThirdDay$Row;I)I"⟩
abbrev cX7_placeRefusal : ByteArray := prog_1_method_48_code
def yX7_placeRefusal : MethodName := ⟨RX7, "placeRefusal", "([LThirdDay$Row;II)I"⟩
abbrev cX7_laidOut : ByteArray := prog_1_method_49_code
def yX7_laidOut : MethodName := ⟨RX7, "laidOut", "([LThirdDay$Row;III)I"⟩
abbrev cX7_rowRefusal : ByteArray := prog_1_method_50_code
def yX7_rowRefusal : MethodName := ⟨RX7, "rowRefusal", "(I)I"⟩
abbrev cX7_heatRefusal : ByteArray := prog_1_method_51_code
def yX7_heatRefusal : MethodName := ⟨RX7, "heatRefusal", "(I)I"⟩
abbrev cX7_chanceRefusal : ByteArray := prog_1_method_52_code
def yX7_chanceRefusal : MethodName := ⟨RX7, "chanceRefusal", "(I)I"⟩
abbrev cX7_trialsRefusal : ByteArray := prog_1_method_53_code
def yX7_trialsRefusal : MethodName := ⟨RX7, "trialsRefusal", "(I)I"⟩
abbrev cX7_suppositionRefusal : ByteArray := prog_1_method_54_code
def yX7_suppositionRefusal : MethodName := ⟨RX7, "suppositionRefusal", "(II)I"⟩
abbrev cX7_pairsFinding : ByteArray := prog_1_method_55_code
def yX7_pairsFinding : MethodName := ⟨RX7, "pairsFinding", "(LThirdDay$Row;I)I"⟩
abbrev cX7_orderFinding : ByteArray := prog_1_method_56_code
def yX7_orderFinding : MethodName := ⟨RX7, "orderFinding", "(LThirdDay$Row;)I"⟩
abbrev cX7_tellFraction : ByteArray := prog_1_method_57_code
def yX7_tellFraction : MethodName := ⟨RX7, "tellFraction", "(JJ)V"⟩
abbrev cX7_commonDivisor : ByteArray := prog_1_method_58_code
def yX7_commonDivisor : MethodName := ⟨RX7, "commonDivisor", "(JJ)J"⟩
abbrev cX7_howManyThere : ByteArray := prog_1_method_59_code
def yX7_howManyThere : MethodName := ⟨RX7, "howManyThere", "([LThirdDay$Row;)I"⟩
abbrev cX7_courtsKept : ByteArray := prog_1_method_60_code
def yX7_courtsKept : MethodName := ⟨RX7, "courtsKept", "()I"⟩
def RX8 : String := "ThirdDayModel"
def TX8 : u_T := fun k => match k with
  | 0 => ("ThirdDayModel", "row", "[I", true)
  | 1 => ("ThirdDayModel", "pounds", "I", false)
  | 2 => ("ThirdDayModel", "mercy", "I", false)
  | 3 => ("ThirdDayModel", "heals", "I", false)
  | 4 => ("ThirdDayModel", "king", "I", false)
  | 5 => ("ThirdDayModel", "men", "I", false)
  | 6 => ("ThirdDayModel", "kinds", "[I", true)
  | 7 => ("ThirdDayModel", "guilts", "[I", true)
  | 8 => ("ThirdDayModel", "beliefs", "[I", true)
  | 9 => ("ThirdDayModel", "hands", "[I", true)
  | 10 => ("ThirdDayModel", "sizes", "[I", true)
  | 11 => ("ThirdDayModel", "items", "[I", true)
  | 12 => ("ThirdDayModel", "lengths", "[I", true)
  | 13 => ("ThirdDayModel", "bytes", "[I", true)
  | 14 => ("ThirdDayModel", "asked", "I", false)
  | 15 => ("ThirdDayModel", "upper", "J", false)
  | 16 => ("ThirdDayModel", "lower", "J", false)
  | 17 => ("ThirdDayModel", "finding", "I", false)
  | 18 => ("ThirdDayModel", "findings", "[I", true)
  | 19 => ("ThirdDayModel", "from", "I", false)
  | 20 => ("ThirdDayModel", "place", "I", false)
  | 21 => ("ThirdDayModel", "end", "I", false)
  | 22 => ("ThirdDayModel", "readCourt", "[I", true)
  | 23 => ("ThirdDayModel", "readMen", "[I", true)
  | 24 => ("ThirdDayModel", "readMany", "I", false)
  | 25 => ("ThirdDayModel", "line", "[I", true)
  | 26 => ("ThirdDayModel", "lineSize", "I", false)
  | 27 => ("ThirdDayModel", "parts", "[I", true)
  | 28 => ("ThirdDayModel", "fouls", "[I", true)
  | _ => ("ThirdDayModel", "before", "[I", true)
def tyX8 : Nat → FieldType := fun k => match k with
  | 0 => .array .int
  | 1 => .int
  | 2 => .int
  | 3 => .int
  | 4 => .int
  | 5 => .int
  | 6 => .array .int
  | 7 => .array .int
  | 8 => .array .int
  | 9 => .array .int
  | 10 => .array .int
  | 11 => .array .int
  | 12 => .array .int
  | 13 => .array .int
  | 14 => .int
  | 15 => .long
  | 16 => .long
  | 17 => .int
  | 18 => .array .int
  | 19 => .int
  | 20 => .int
  | 21 => .int
  | 22 => .array .int
  | 23 => .array .int
  | 24 => .int
  | 25 => .array .int
  | 26 => .int
  | 27 => .array .int
  | 28 => .array .int
  | _ => .array .int
theorem nmX8 : ∀ a, a < 30 → ∀ b, b < 30 → a ≠ b → (TX8 a).2.1 ≠ (TX8 b).2.1 := by decide +kernel
theorem tyX8_ok : ∀ k, k < 30 → parseFieldDescriptor (TX8 k).2.2.1 = some (tyX8 k) := by decide +kernel
abbrev cX8_init : ByteArray := prog_10_method_1_code
def yX8_init : MethodName := ⟨RX8, "<init>", "()V"⟩
abbrev cX8_layBegun : ByteArray := prog_10_method_2_code
def yX8_layBegun : MethodName := ⟨RX8, "layBegun", "()V"⟩
abbrev cX8_bits : ByteArray := prog_10_method_3_code
def yX8_bits : MethodName := ⟨RX8, "bits", "(I)I"⟩
abbrev cX8_some : ByteArray := prog_10_method_4_code
def yX8_some : MethodName := ⟨RX8, "some", "(I)I"⟩
abbrev cX8_in : ByteArray := prog_10_method_5_code
def yX8_in : MethodName := ⟨RX8, "in", "(JJJ)Z"⟩
abbrev cX8_has : ByteArray := prog_10_method_6_code
def yX8_has : MethodName := ⟨RX8, "has", "(II)Z"⟩
abbrev cX8_find : ByteArray := prog_10_method_7_code
def yX8_find : MethodName := ⟨RX8, "find", "(I)I"⟩
abbrev cX8_tell : ByteArray := prog_10_method_8_code
def yX8_tell : MethodName := ⟨RX8, "tell", "(I)I"⟩
abbrev cX8_isRow : ByteArray := prog_10_method_9_code
def yX8_isRow : MethodName := ⟨RX8, "isRow", "(I)Z"⟩
abbrev cX8_isText : ByteArray := prog_10_method_10_code
def yX8_isText : MethodName := ⟨RX8, "isText", "(I)Z"⟩
abbrev cX8_row : ByteArray := prog_10_method_11_code
def yX8_row : MethodName := ⟨RX8, "row", "(II)I"⟩
abbrev cX8_makeRow : ByteArray := prog_10_method_12_code
def yX8_makeRow : MethodName := ⟨RX8, "makeRow", "(II)V"⟩
abbrev cX8_refused : ByteArray := prog_10_method_13_code
def yX8_refused : MethodName := ⟨RX8, "refused", "(II)I"⟩
abbrev cX8_lay : ByteArray := prog_10_method_14_code
def yX8_lay : MethodName := ⟨RX8, "lay", "(III)I"⟩
abbrev cX8_at : ByteArray := prog_10_method_15_code
def yX8_at : MethodName := ⟨RX8, "at", "(II)I"⟩
abbrev cX8_tear : ByteArray := prog_10_method_16_code
def yX8_tear : MethodName := ⟨RX8, "tear", "(I)I"⟩
abbrev cX8_isSpan : ByteArray := prog_10_method_17_code
def yX8_isSpan : MethodName := ⟨RX8, "isSpan", "(III)Z"⟩
abbrev cX8_copy : ByteArray := prog_10_method_18_code
def yX8_copy : MethodName := ⟨RX8, "copy", "(IIIII)I"⟩
abbrev cX8_mean : ByteArray := prog_10_method_19_code
def yX8_mean : MethodName := ⟨RX8, "mean", "(I)I"⟩
abbrev cX8_text : ByteArray := prog_10_method_20_code
def yX8_text : MethodName := ⟨RX8, "text", "(II)I"⟩
abbrev cX8_put : ByteArray := prog_10_method_21_code
def yX8_put : MethodName := ⟨RX8, "put", "(III)I"⟩
abbrev cX8_here : ByteArray := prog_10_method_22_code
def yX8_here : MethodName := ⟨RX8, "here", "()I"⟩
abbrev cX8_skip : ByteArray := prog_10_method_23_code
def yX8_skip : MethodName := ⟨RX8, "skip", "()V"⟩
abbrev cX8_isFigure : ByteArray := prog_10_method_24_code
def yX8_isFigure : MethodName := ⟨RX8, "isFigure", "(II)Z"⟩
abbrev cX8_figure : ByteArray := prog_10_method_25_code
def yX8_figure : MethodName := ⟨RX8, "figure", "(II)I"⟩
abbrev cX8_readsIron : ByteArray := prog_10_method_26_code
def yX8_readsIron : MethodName := ⟨RX8, "readsIron", "()Z"⟩
abbrev cX8_kindOfLetter : ByteArray := prog_10_method_27_code
def yX8_kindOfLetter : MethodName := ⟨RX8, "kindOfLetter", "(I)I"⟩
abbrev cX8_readsMan : ByteArray := prog_10_method_28_code
def yX8_readsMan : MethodName := ⟨RX8, "readsMan", "()Z"⟩
abbrev cX8_faultOf : ByteArray := prog_10_method_29_code
def yX8_faultOf : MethodName := ⟨RX8, "faultOf", "(I)I"⟩
abbrev cX8_fault : ByteArray := prog_10_method_30_code
def yX8_fault : MethodName := ⟨RX8, "fault", "(I)I"⟩
abbrev cX8_court : ByteArray := prog_10_method_31_code
def yX8_court : MethodName := ⟨RX8, "court", "(I)I"⟩
abbrev cX8_isMan : ByteArray := prog_10_method_32_code
def yX8_isMan : MethodName := ⟨RX8, "isMan", "(I)Z"⟩
abbrev cX8_isClerk : ByteArray := prog_10_method_33_code
def yX8_isClerk : MethodName := ⟨RX8, "isClerk", "(I)Z"⟩
abbrev cX8_hardBy : ByteArray := prog_10_method_34_code
def yX8_hardBy : MethodName := ⟨RX8, "hardBy", "(II)I"⟩
abbrev cX8_plainFeels : ByteArray := prog_10_method_35_code
def yX8_plainFeels : MethodName := ⟨RX8, "plainFeels", "(II)I"⟩
abbrev cX8_burnsBy : ByteArray := prog_10_method_36_code
def yX8_burnsBy : MethodName := ⟨RX8, "burnsBy", "(IIII)I"⟩
abbrev cX8_burns : ByteArray := prog_10_method_37_code
def yX8_burns : MethodName := ⟨RX8, "burns", "(II)I"⟩
abbrev cX8_comesBy : ByteArray := prog_10_method_38_code
def yX8_comesBy : MethodName := ⟨RX8, "comesBy", "(III)Z"⟩
abbrev cX8_doesCome : ByteArray := prog_10_method_39_code
def yX8_doesCome : MethodName := ⟨RX8, "doesCome", "(II)Z"⟩
abbrev cX8_bearable : ByteArray := prog_10_method_40_code
def yX8_bearable : MethodName := ⟨RX8, "bearable", "(II)I"⟩
abbrev cX8_isClean : ByteArray := prog_10_method_41_code
def yX8_isClean : MethodName := ⟨RX8, "isClean", "(III)Z"⟩
abbrev cX8_tellsBy : ByteArray := prog_10_method_42_code
def yX8_tellsBy : MethodName := ⟨RX8, "tellsBy", "(IIII)I"⟩
abbrev cX8_tellsAt : ByteArray := prog_10_method_43_code
def yX8_tellsAt : MethodName := ⟨RX8, "tellsAt", "(III)I"⟩
abbrev cX8_isWrong : ByteArray := prog_10_method_44_code
def yX8_isWrong : MethodName := ⟨RX8, "isWrong", "(II)Z"⟩
abbrev cX8_toldOf : ByteArray := prog_10_method_45_code
def yX8_toldOf : MethodName := ⟨RX8, "toldOf", "(II)I"⟩
abbrev cX8_man : ByteArray := prog_10_method_46_code
def yX8_man : MethodName := ⟨RX8, "man", "(II)I"⟩
abbrev cX8_isOf : ByteArray := prog_10_method_47_code
def yX8_isOf : MethodName := ⟨RX8, "isOf", "(II)Z"⟩
abbrev cX8_moreHeat : ByteArray := prog_10_method_48_code
def yX8_moreHeat : MethodName := ⟨RX8, "moreHeat", "(I)I"⟩
abbrev cX8_awayBut : ByteArray := prog_10_method_49_code
def yX8_awayBut : MethodName := ⟨RX8, "awayBut", "(I)I"⟩
abbrev cX8_mark : ByteArray := prog_10_method_50_code
def yX8_mark : MethodName := ⟨RX8, "mark", "(II)I"⟩
abbrev cX8_keepPast : ByteArray := prog_10_method_51_code
def yX8_keepPast : MethodName := ⟨RX8, "keepPast", "()V"⟩
abbrev cX8_heatOf : ByteArray := prog_10_method_52_code
def yX8_heatOf : MethodName := ⟨RX8, "heatOf", "(I)I"⟩
abbrev cX8_heat : ByteArray := prog_10_method_53_code
def yX8_heat : MethodName := ⟨RX8, "heat", "(I)I"⟩
abbrev cX8_isDone : ByteArray := prog_10_method_54_code
def yX8_isDone : MethodName := ⟨RX8, "isDone", "(I)Z"⟩
abbrev cX8_salve : ByteArray := prog_10_method_55_code
def yX8_salve : MethodName := ⟨RX8, "salve", "(I)I"⟩
abbrev cX8_tryAt : ByteArray := prog_10_method_56_code
def yX8_tryAt : MethodName := ⟨RX8, "tryAt", "(II)I"⟩
abbrev cX8_trial : ByteArray := prog_10_method_57_code
def yX8_trial : MethodName := ⟨RX8, "trial", "(I)I"⟩
abbrev cX8_undo : ByteArray := prog_10_method_58_code
def yX8_undo : MethodName := ⟨RX8, "undo", "(I)I"⟩
abbrev cX8_copyCourt : ByteArray := prog_10_method_59_code
def yX8_copyCourt : MethodName := ⟨RX8, "copyCourt", "(II)V"⟩
abbrev cX8_keep : ByteArray := prog_10_method_60_code
def yX8_keep : MethodName := ⟨RX8, "keep", "(I)I"⟩
abbrev cX8_on : ByteArray := prog_10_method_61_code
def yX8_on : MethodName := ⟨RX8, "on", "(I)I"⟩
abbrev cX8_comes : ByteArray := prog_10_method_62_code
def yX8_comes : MethodName := ⟨RX8, "comes", "()I"⟩
abbrev cX8_wrongBy : ByteArray := prog_10_method_63_code
def yX8_wrongBy : MethodName := ⟨RX8, "wrongBy", "(IZ)I"⟩
abbrev cX8_wrong : ByteArray := prog_10_method_64_code
def yX8_wrong : MethodName := ⟨RX8, "wrong", "(I)I"⟩
abbrev cX8_best : ByteArray := prog_10_method_65_code
def yX8_best : MethodName := ⟨RX8, "best", "()I"⟩
abbrev cX8_heats : ByteArray := prog_10_method_66_code
def yX8_heats : MethodName := ⟨RX8, "heats", "(II)I"⟩
abbrev cX8_tellParts : ByteArray := prog_10_method_67_code
def yX8_tellParts : MethodName := ⟨RX8, "tellParts", "(JJ)I"⟩
abbrev cX8_tells : ByteArray := prog_10_method_68_code
def yX8_tells : MethodName := ⟨RX8, "tells", "(I)I"⟩
abbrev cX8_layTried : ByteArray := prog_10_method_69_code
def yX8_layTried : MethodName := ⟨RX8, "layTried", "()V"⟩
abbrev cX8_layLine : ByteArray := prog_10_method_70_code
def yX8_layLine : MethodName := ⟨RX8, "layLine", "()V"⟩
abbrev cX8_swapLine : ByteArray := prog_10_method_71_code
def yX8_swapLine : MethodName := ⟨RX8, "swapLine", "(II)V"⟩
abbrev cX8_nextLine : ByteArray := prog_10_method_72_code
def yX8_nextLine : MethodName := ⟨RX8, "nextLine", "()Z"⟩
abbrev cX8_wrongInLine : ByteArray := prog_10_method_73_code
def yX8_wrongInLine : MethodName := ⟨RX8, "wrongInLine", "()I"⟩
abbrev cX8_order : ByteArray := prog_10_method_74_code
def yX8_order : MethodName := ⟨RX8, "order", "(I)I"⟩
abbrev cX8_tried : ByteArray := prog_10_method_75_code
def yX8_tried : MethodName := ⟨RX8, "tried", "(I)I"⟩
abbrev cX8_least : ByteArray := prog_10_method_76_code
def yX8_least : MethodName := ⟨RX8, "least", "()I"⟩
abbrev cX8_noPairs : ByteArray := prog_10_method_77_code
def yX8_noPairs : MethodName := ⟨RX8, "noPairs", "(II)I"⟩
abbrev cX8_fitting : ByteArray := prog_10_method_78_code
def yX8_fitting : MethodName := ⟨RX8, "fitting", "(I)I"⟩
abbrev cX8_fits : ByteArray := prog_10_method_79_code
def yX8_fits : MethodName := ⟨RX8, "fits", "(I)I"⟩
abbrev cX8_greatestPart : ByteArray := prog_10_method_80_code
def yX8_greatestPart : MethodName := ⟨RX8, "greatestPart", "(II)I"⟩
abbrev cX8_ask : ByteArray := prog_10_method_81_code
def yX8_ask : MethodName := ⟨RX8, "ask", "(I)I"⟩
abbrev cX8_isTold : ByteArray := prog_10_method_82_code
def yX8_isTold : MethodName := ⟨RX8, "isTold", "(IIII)Z"⟩
abbrev cX8_hands : ByteArray := prog_10_method_83_code
def yX8_hands : MethodName := ⟨RX8, "hands", "(II)I"⟩
abbrev cX8_kinds : ByteArray := prog_10_method_84_code
def yX8_kinds : MethodName := ⟨RX8, "kinds", "(II)I"⟩
abbrev cX8_foulBy : ByteArray := prog_10_method_85_code
def yX8_foulBy : MethodName := ⟨RX8, "foulBy", "(I)I"⟩
abbrev cX8_duel : ByteArray := prog_10_method_86_code
def yX8_duel : MethodName := ⟨RX8, "duel", "(I)I"⟩
abbrev cX8_cleanWays : ByteArray := prog_10_method_87_code
def yX8_cleanWays : MethodName := ⟨RX8, "cleanWays", "(II)I"⟩
abbrev cX8_isHere : ByteArray := prog_10_method_88_code
def yX8_isHere : MethodName := ⟨RX8, "isHere", "(I)Z"⟩
abbrev cX8_odds : ByteArray := prog_10_method_89_code
def yX8_odds : MethodName := ⟨RX8, "odds", "(I)I"⟩
abbrev cX8_mid : ByteArray := prog_10_method_90_code
def yX8_mid : MethodName := ⟨RX8, "mid", "(I)I"⟩
abbrev cX8_lots : ByteArray := prog_10_method_91_code
def yX8_lots : MethodName := ⟨RX8, "lots", "(II)I"⟩
abbrev cX8_asked : ByteArray := prog_10_method_92_code
def yX8_asked : MethodName := ⟨RX8, "asked", "()I"⟩
abbrev cX8_upper : ByteArray := prog_10_method_93_code
def yX8_upper : MethodName := ⟨RX8, "upper", "()J"⟩
abbrev cX8_lower : ByteArray := prog_10_method_94_code
def yX8_lower : MethodName := ⟨RX8, "lower", "()J"⟩
abbrev cX8_sumOf : ByteArray := prog_10_method_95_code
def yX8_sumOf : MethodName := ⟨RX8, "sumOf", "(I)I"⟩
abbrev cX8_thereOf : ByteArray := prog_10_method_96_code
def yX8_thereOf : MethodName := ⟨RX8, "thereOf", "(I)I"⟩
abbrev cX8_countOf : ByteArray := prog_10_method_97_code
def yX8_countOf : MethodName := ⟨RX8, "countOf", "(I)I"⟩
abbrev cX8_count : ByteArray := prog_10_method_98_code
def yX8_count : MethodName := ⟨RX8, "count", "(I)I"⟩
abbrev cX8_finding : ByteArray := prog_10_method_99_code
def yX8_finding : MethodName := ⟨RX8, "finding", "()I"⟩
abbrev cX8_findings : ByteArray := prog_10_method_100_code
def yX8_findings : MethodName := ⟨RX8, "findings", "(I)I"⟩
abbrev cX8_digest : ByteArray := prog_10_method_101_code
def yX8_digest : MethodName := ⟨RX8, "digest", "()J"⟩
def RJ6 : String := "java/lang/Integer"
abbrev cJ6_bitCount_0f7a4 : ByteArray := prog_11_method_49_code
def yJ6_bitCount_0f7a4 : MethodName := ⟨RJ6, "bitCount", "(I)I"⟩
def RL : String := "ThirdDayLaw"
abbrev cL_law : ByteArray := code
def yL_law : MethodName := ⟨RL, "law", "([I)Z"⟩
abbrev vwCl : List vw_C := [(RX0, TX0, 9), (RX1, TX1, 3), (RX2, TX2, 2), (RX3, TX3, 7), (RX4, TX4, 2), (RX5, TX5, 4), (RX6, TX6, 2), (RX7, TX7, 12), (RX8, TX8, 30)]
end
section
theorem dX0_init_0 : decode cX0_init 0 = .ok (.aload_n 0, 1) := by decide +kernel
theorem dX0_init_1 : decode cX0_init 1 = .ok (.invokespecial 3, 3) := by decide +kernel
theorem dX0_init_4 : decode cX0_init 4 = .ok (.aload_n 0, 1) := by decide +kernel
theorem dX0_init_5 : decode cX0_init 5 = .ok (.bipush 6, 2) := by decide +kernel
theorem dX0_init_7 : decode cX0_init 7 = .ok (.anewarray 9, 3) := by decide +kernel
theorem dX0_init_10 : decode cX0_init 10 = .ok (.putfield 11, 3) := by decide +kernel
theorem dX0_init_13 : decode cX0_init 13 = .ok (.aload_n 0, 1) := by decide +kernel
theorem dX0_init_14 : decode cX0_init 14 = .ok (.new 9, 3) := by decide +kernel
theorem dX0_init_17 : decode cX0_init 17 = .ok (.dup, 1) := by decide +kernel
theorem dX0_init_18 : decode cX0_init 18 = .ok (.invokespecial 17, 3) := by decide +kernel
theorem dX0_init_21 : decode cX0_init 21 = .ok (.putfield 18, 3) := by decide +kernel
theorem dX0_init_24 : decode cX0_init 24 = .ok (.aload_n 0, 1) := by decide +kernel
theorem dX0_init_25 : decode cX0_init 25 = .ok (.new 22, 3) := by decide +kernel
theorem dX0_init_28 : decode cX0_init 28 = .ok (.dup, 1) := by decide +kernel
theorem dX0_init_29 : decode cX0_init 29 = .ok (.iconst 0, 1) := by decide +kernel
theorem dX0_init_30 : decode cX0_init 30 = .ok (.invokespecial 24, 3) := by decide +kernel
theorem dX0_init_33 : decode cX0_init 33 = .ok (.putfield 27, 3) := by decide +kernel
theorem dX0_init_36 : decode cX0_init 36 = .ok (.aload_n 0, 1) := by decide +kernel
theorem dX0_init_37 : decode cX0_init 37 = .ok (.bipush 8, 2) := by decide +kernel
theorem dX0_init_39 : decode cX0_init 39 = .ok (.putfield 31, 3) := by decide +kernel
theorem dX0_init_42 : decode cX0_init 42 = .ok (.iconst 0, 1) := by decide +kernel
theorem dX0_init_43 : decode cX0_init 43 = .ok (.istore_n 1, 1) := by decide +kernel
theorem dX0_init_44 : decode cX0_init 44 = .ok (.iload_n 1, 1) := by decide +kernel
theorem dX0_init_45 : decode cX0_init 45 = .ok (.bipush 6, 2) := by decide +kernel
theorem dX0_init_47 : decode cX0_init 47 = .ok (.if_icmp .ge 22, 3) := by decide +kernel
theorem dX0_init_50 : decode cX0_init 50 = .ok (.aload_n 0, 1) := by decide +kernel
theorem dX0_init_51 : decode cX0_init 51 = .ok (.getfield 11, 3) := by decide +kernel
theorem dX0_init_54 : decode cX0_init 54 = .ok (.iload_n 1, 1) := by decide +kernel
theorem dX0_init_55 : decode cX0_init 55 = .ok (.new 9, 3) := by decide +kernel
theorem dX0_init_58 : decode cX0_init 58 = .ok (.dup, 1) := by decide +kernel
theorem dX0_init_59 : decode cX0_init 59 = .ok (.invokespecial 17, 3) := by decide +kernel
theorem dX0_init_62 : decode cX0_init 62 = .ok (.aastore, 1) := by decide +kernel
theorem dX0_init_63 : decode cX0_init 63 = .ok (.iinc 1 1, 3) := by decide +kernel
theorem dX0_init_66 : decode cX0_init 66 = .ok (.goto (-22), 3) := by decide +kernel
theorem dX0_init_69 : decode cX0_init 69 = .ok (.return_, 1) := by decide +kernel
theorem dX0_assemble_0 : decode cX0_assemble 0 = .ok (.aload_n 1, 1) := by decide +kernel
theorem dX0_assemble_1 : decode cX0_assemble 1 = .ok (.getfield 35, 3) := by decide +kernel
theorem dX0_assemble_4 : decode cX0_assemble 4 = .ok (.astore_n 2, 1) := by decide +kernel
theorem dX0_assemble_5 : decode cX0_assemble 5 = .ok (.aload_n 0, 1) := by decide +kernel
theorem dX0_assemble_6 : decode cX0_assemble 6 = .ok (.aload_n 2, 1) := by decide +kernel
theorem dX0_assemble_7 : decode cX0_assemble 7 = .ok (.iconst 0, 1) := by decide +kernel
theorem dX0_assemble_8 : decode cX0_assemble 8 = .ok (.iaload, 1) := by decide +kernel
theorem dX0_assemble_9 : decode cX0_assemble 9 = .ok (.putfield 41, 3) := by decide +kernel
theorem dX0_assemble_12 : decode cX0_assemble 12 = .ok (.aload_n 0, 1) := by decide +kernel
theorem dX0_assemble_13 : decode cX0_assemble 13 = .ok (.aload_n 2, 1) := by decide +kernel
theorem dX0_assemble_14 : decode cX0_assemble 14 = .ok (.iconst 1, 1) := by decide +kernel
theorem dX0_assemble_15 : decode cX0_assemble 15 = .ok (.iaload, 1) := by decide +kernel
theorem dX0_assemble_16 : decode cX0_assemble 16 = .ok (.putfield 44, 3) := by decide +kernel
theorem dX0_assemble_19 : decode cX0_assemble 19 = .ok (.aload_n 0, 1) := by decide +kernel
theorem dX0_assemble_20 : decode cX0_assemble 20 = .ok (.aload_n 2, 1) := by decide +kernel
theorem dX0_assemble_21 : decode cX0_assemble 21 = .ok (.iconst 2, 1) := by decide +kernel
theorem dX0_assemble_22 : decode cX0_assemble 22 = .ok (.iaload, 1) := by decide +kernel
theorem dX0_assemble_23 : decode cX0_assemble 23 = .ok (.putfield 47, 3) := by decide +kernel
theorem dX0_assemble_26 : decode cX0_assemble 26 = .ok (.aload_n 0, 1) := by decide +kernel
theorem dX0_assemble_27 : decode cX0_assemble 27 = .ok (.aload_n 2, 1) := by decide +kernel
theorem dX0_assemble_28 : decode cX0_assemble 28 = .ok (.iconst 3, 1) := by decide +kernel
theorem dX0_assemble_29 : decode cX0_assemble 29 = .ok (.iaload, 1) := by decide +kernel
theorem dX0_assemble_30 : decode cX0_assemble 30 = .ok (.putfield 50, 3) := by decide +kernel
theorem dX0_assemble_33 : decode cX0_assemble 33 = .ok (.aload_n 0, 1) := by decide +kernel
theorem dX0_assemble_34 : decode cX0_assemble 34 = .ok (.aload_n 1, 1) := by decide +kernel
theorem dX0_assemble_35 : decode cX0_assemble 35 = .ok (.getfield 53, 3) := by decide +kernel
theorem dX0_assemble_38 : decode cX0_assemble 38 = .ok (.putfield 55, 3) := by decide +kernel
theorem dX0_assemble_41 : decode cX0_assemble 41 = .ok (.iconst 0, 1) := by decide +kernel
theorem dX0_assemble_42 : decode cX0_assemble 42 = .ok (.istore_n 3, 1) := by decide +kernel
theorem dX0_assemble_43 : decode cX0_assemble 43 = .ok (.iload_n 3, 1) := by decide +kernel
theorem dX0_assemble_44 : decode cX0_assemble 44 = .ok (.aload_n 0, 1) := by decide +kernel
theorem dX0_assemble_45 : decode cX0_assemble 45 = .ok (.getfield 55, 3) := by decide +kernel
theorem dX0_assemble_48 : decode cX0_assemble 48 = .ok (.if_icmp .ge 47, 3) := by decide +kernel
theorem dX0_assemble_51 : decode cX0_assemble 51 = .ok (.iconst 4, 1) := by decide +kernel
theorem dX0_assemble_52 : decode cX0_assemble 52 = .ok (.iconst 4, 1) := by decide +kernel
theorem dX0_assemble_53 : decode cX0_assemble 53 = .ok (.iload_n 3, 1) := by decide +kernel
theorem dX0_assemble_54 : decode cX0_assemble 54 = .ok (.imul, 1) := by decide +kernel
theorem dX0_assemble_55 : decode cX0_assemble 55 = .ok (.iadd, 1) := by decide +kernel
theorem dX0_assemble_56 : decode cX0_assemble 56 = .ok (.istore 4, 2) := by decide +kernel
theorem dX0_assemble_58 : decode cX0_assemble 58 = .ok (.aload_n 0, 1) := by decide +kernel
theorem dX0_assemble_59 : decode cX0_assemble 59 = .ok (.getfield 11, 3) := by decide +kernel
theorem dX0_assemble_62 : decode cX0_assemble 62 = .ok (.iload_n 3, 1) := by decide +kernel
theorem dX0_assemble_63 : decode cX0_assemble 63 = .ok (.aaload, 1) := by decide +kernel
theorem dX0_assemble_64 : decode cX0_assemble 64 = .ok (.aload_n 2, 1) := by decide +kernel
theorem dX0_assemble_65 : decode cX0_assemble 65 = .ok (.iload 4, 2) := by decide +kernel
theorem dX0_assemble_67 : decode cX0_assemble 67 = .ok (.iaload, 1) := by decide +kernel
theorem dX0_assemble_68 : decode cX0_assemble 68 = .ok (.aload_n 2, 1) := by decide +kernel
theorem dX0_assemble_69 : decode cX0_assemble 69 = .ok (.iload 4, 2) := by decide +kernel
theorem dX0_assemble_71 : decode cX0_assemble 71 = .ok (.iconst 1, 1) := by decide +kernel
theorem dX0_assemble_72 : decode cX0_assemble 72 = .ok (.iadd, 1) := by decide +kernel
theorem dX0_assemble_73 : decode cX0_assemble 73 = .ok (.iaload, 1) := by decide +kernel
theorem dX0_assemble_74 : decode cX0_assemble 74 = .ok (.aload_n 2, 1) := by decide +kernel
theorem dX0_assemble_75 : decode cX0_assemble 75 = .ok (.iload 4, 2) := by decide +kernel
theorem dX0_assemble_77 : decode cX0_assemble 77 = .ok (.iconst 2, 1) := by decide +kernel
theorem dX0_assemble_78 : decode cX0_assemble 78 = .ok (.iadd, 1) := by decide +kernel
theorem dX0_assemble_79 : decode cX0_assemble 79 = .ok (.iaload, 1) := by decide +kernel
theorem dX0_assemble_80 : decode cX0_assemble 80 = .ok (.aload_n 2, 1) := by decide +kernel
theorem dX0_assemble_81 : decode cX0_assemble 81 = .ok (.iload 4, 2) := by decide +kernel
theorem dX0_assemble_83 : decode cX0_assemble 83 = .ok (.iconst 3, 1) := by decide +kernel
theorem dX0_assemble_84 : decode cX0_assemble 84 = .ok (.iadd, 1) := by decide +kernel
theorem dX0_assemble_85 : decode cX0_assemble 85 = .ok (.iaload, 1) := by decide +kernel
theorem dX0_assemble_86 : decode cX0_assemble 86 = .ok (.invokevirtual 58, 3) := by decide +kernel
theorem dX0_assemble_89 : decode cX0_assemble 89 = .ok (.iinc 3 1, 3) := by decide +kernel
theorem dX0_assemble_92 : decode cX0_assemble 92 = .ok (.goto (-49), 3) := by decide +kernel
theorem dX0_assemble_95 : decode cX0_assemble 95 = .ok (.aload_n 0, 1) := by decide +kernel
theorem dX0_assemble_96 : decode cX0_assemble 96 = .ok (.getfield 27, 3) := by decide +kernel
theorem dX0_assemble_99 : decode cX0_assemble 99 = .ok (.iconst 0, 1) := by decide +kernel
theorem dX0_assemble_100 : decode cX0_assemble 100 = .ok (.putfield 62, 3) := by decide +kernel
theorem dX0_assemble_103 : decode cX0_assemble 103 = .ok (.aload_n 0, 1) := by decide +kernel
theorem dX0_assemble_104 : decode cX0_assemble 104 = .ok (.invokevirtual 63, 3) := by decide +kernel
theorem dX0_assemble_107 : decode cX0_assemble 107 = .ok (.return_, 1) := by decide +kernel
theorem dX0_detail_0 : decode cX0_detail 0 = .ok (.iload_n 2, 1) := by decide +kernel
theorem dX0_detail_1 : decode cX0_detail 1 = .ok (.tableswitch 117 0 7 #[47, 52, 57, 62, 67, 77, 94, 112], 47) := by decide +kernel
theorem dX0_detail_48 : decode cX0_detail 48 = .ok (.aload_n 1, 1) := by decide +kernel
theorem dX0_detail_49 : decode cX0_detail 49 = .ok (.getfield 66, 3) := by decide +kernel
theorem dX0_detail_52 : decode cX0_detail 52 = .ok (.ireturn, 1) := by decide +kernel
theorem dX0_detail_53 : decode cX0_detail 53 = .ok (.aload_n 1, 1) := by decide +kernel
theorem dX0_detail_54 : decode cX0_detail 54 = .ok (.getfield 69, 3) := by decide +kernel
theorem dX0_detail_57 : decode cX0_detail 57 = .ok (.ireturn, 1) := by decide +kernel
theorem dX0_detail_58 : decode cX0_detail 58 = .ok (.aload_n 1, 1) := by decide +kernel
theorem dX0_detail_59 : decode cX0_detail 59 = .ok (.getfield 72, 3) := by decide +kernel
theorem dX0_detail_62 : decode cX0_detail 62 = .ok (.ireturn, 1) := by decide +kernel
theorem dX0_detail_63 : decode cX0_detail 63 = .ok (.aload_n 1, 1) := by decide +kernel
theorem dX0_detail_64 : decode cX0_detail 64 = .ok (.invokevirtual 75, 3) := by decide +kernel
theorem dX0_detail_67 : decode cX0_detail 67 = .ok (.ireturn, 1) := by decide +kernel
theorem dX0_detail_68 : decode cX0_detail 68 = .ok (.aload_n 0, 1) := by decide +kernel
theorem dX0_detail_69 : decode cX0_detail 69 = .ok (.aload_n 1, 1) := by decide +kernel
theorem dX0_detail_70 : decode cX0_detail 70 = .ok (.aload_n 0, 1) := by decide +kernel
theorem dX0_detail_71 : decode cX0_detail 71 = .ok (.getfield 31, 3) := by decide +kernel
theorem dX0_detail_74 : decode cX0_detail 74 = .ok (.invokevirtual 79, 3) := by decide +kernel
theorem dX0_detail_77 : decode cX0_detail 77 = .ok (.ireturn, 1) := by decide +kernel
theorem dX0_detail_78 : decode cX0_detail 78 = .ok (.aload_n 1, 1) := by decide +kernel
theorem dX0_detail_79 : decode cX0_detail 79 = .ok (.aload_n 0, 1) := by decide +kernel
theorem dX0_detail_80 : decode cX0_detail 80 = .ok (.getfield 31, 3) := by decide +kernel
theorem dX0_detail_83 : decode cX0_detail 83 = .ok (.invokevirtual 83, 3) := by decide +kernel
theorem dX0_detail_86 : decode cX0_detail 86 = .ok (.ifCond .eq 7, 3) := by decide +kernel
theorem dX0_detail_89 : decode cX0_detail 89 = .ok (.iconst 1, 1) := by decide +kernel
theorem dX0_detail_90 : decode cX0_detail 90 = .ok (.goto 4, 3) := by decide +kernel
theorem dX0_detail_93 : decode cX0_detail 93 = .ok (.iconst 0, 1) := by decide +kernel
theorem dX0_detail_94 : decode cX0_detail 94 = .ok (.ireturn, 1) := by decide +kernel
theorem dX0_detail_95 : decode cX0_detail 95 = .ok (.aload_n 0, 1) := by decide +kernel
theorem dX0_detail_96 : decode cX0_detail 96 = .ok (.aload_n 1, 1) := by decide +kernel
theorem dX0_detail_97 : decode cX0_detail 97 = .ok (.aload_n 0, 1) := by decide +kernel
theorem dX0_detail_98 : decode cX0_detail 98 = .ok (.getfield 31, 3) := by decide +kernel
theorem dX0_detail_101 : decode cX0_detail 101 = .ok (.invokevirtual 87, 3) := by decide +kernel
theorem dX0_detail_104 : decode cX0_detail 104 = .ok (.ifCond .gt 7, 3) := by decide +kernel
theorem dX0_detail_107 : decode cX0_detail 107 = .ok (.iconst 1, 1) := by decide +kernel
theorem dX0_detail_108 : decode cX0_detail 108 = .ok (.goto 4, 3) := by decide +kernel
theorem dX0_detail_111 : decode cX0_detail 111 = .ok (.iconst 0, 1) := by decide +kernel
theorem dX0_detail_112 : decode cX0_detail 112 = .ok (.ireturn, 1) := by decide +kernel
theorem dX0_detail_113 : decode cX0_detail 113 = .ok (.aload_n 1, 1) := by decide +kernel
theorem dX0_detail_114 : decode cX0_detail 114 = .ok (.getfield 90, 3) := by decide +kernel
theorem dX0_detail_117 : decode cX0_detail 117 = .ok (.ireturn, 1) := by decide +kernel
theorem dX0_detail_118 : decode cX0_detail 118 = .ok (.aload_n 1, 1) := by decide +kernel
theorem dX0_detail_119 : decode cX0_detail 119 = .ok (.getfield 93, 3) := by decide +kernel
theorem dX0_detail_122 : decode cX0_detail 122 = .ok (.ireturn, 1) := by decide +kernel
theorem dX0_perform_0 : decode cX0_perform 0 = .ok (.aload_n 0, 1) := by decide +kernel
theorem dX0_perform_1 : decode cX0_perform 1 = .ok (.getfield 27, 3) := by decide +kernel
theorem dX0_perform_4 : decode cX0_perform 4 = .ok (.iload_n 1, 1) := by decide +kernel
theorem dX0_perform_5 : decode cX0_perform 5 = .ok (.iload_n 2, 1) := by decide +kernel
theorem dX0_perform_6 : decode cX0_perform 6 = .ok (.invokevirtual 96, 3) := by decide +kernel
theorem dX0_perform_9 : decode cX0_perform 9 = .ok (.aload_n 0, 1) := by decide +kernel
theorem dX0_perform_10 : decode cX0_perform 10 = .ok (.iload_n 1, 1) := by decide +kernel
theorem dX0_perform_11 : decode cX0_perform 11 = .ok (.iload_n 2, 1) := by decide +kernel
theorem dX0_perform_12 : decode cX0_perform 12 = .ok (.invokevirtual 100, 3) := by decide +kernel
theorem dX0_perform_15 : decode cX0_perform 15 = .ok (.return_, 1) := by decide +kernel
theorem dX0_actAgain_0 : decode cX0_actAgain 0 = .ok (.aload_n 0, 1) := by decide +kernel
theorem dX0_actAgain_1 : decode cX0_actAgain 1 = .ok (.bipush 8, 2) := by decide +kernel
theorem dX0_actAgain_3 : decode cX0_actAgain 3 = .ok (.putfield 31, 3) := by decide +kernel
theorem dX0_actAgain_6 : decode cX0_actAgain 6 = .ok (.iconst 0, 1) := by decide +kernel
theorem dX0_actAgain_7 : decode cX0_actAgain 7 = .ok (.istore_n 1, 1) := by decide +kernel
theorem dX0_actAgain_8 : decode cX0_actAgain 8 = .ok (.iload_n 1, 1) := by decide +kernel
theorem dX0_actAgain_9 : decode cX0_actAgain 9 = .ok (.aload_n 0, 1) := by decide +kernel
theorem dX0_actAgain_10 : decode cX0_actAgain 10 = .ok (.getfield 55, 3) := by decide +kernel
theorem dX0_actAgain_13 : decode cX0_actAgain 13 = .ok (.if_icmp .ge 18, 3) := by decide +kernel
theorem dX0_actAgain_16 : decode cX0_actAgain 16 = .ok (.aload_n 0, 1) := by decide +kernel
theorem dX0_actAgain_17 : decode cX0_actAgain 17 = .ok (.getfield 11, 3) := by decide +kernel
theorem dX0_actAgain_20 : decode cX0_actAgain 20 = .ok (.iload_n 1, 1) := by decide +kernel
theorem dX0_actAgain_21 : decode cX0_actAgain 21 = .ok (.aaload, 1) := by decide +kernel
theorem dX0_actAgain_22 : decode cX0_actAgain 22 = .ok (.invokevirtual 103, 3) := by decide +kernel
theorem dX0_actAgain_25 : decode cX0_actAgain 25 = .ok (.iinc 1 1, 3) := by decide +kernel
theorem dX0_actAgain_28 : decode cX0_actAgain 28 = .ok (.goto (-20), 3) := by decide +kernel
theorem dX0_actAgain_31 : decode cX0_actAgain 31 = .ok (.iconst 0, 1) := by decide +kernel
theorem dX0_actAgain_32 : decode cX0_actAgain 32 = .ok (.istore_n 1, 1) := by decide +kernel
theorem dX0_actAgain_33 : decode cX0_actAgain 33 = .ok (.iload_n 1, 1) := by decide +kernel
theorem dX0_actAgain_34 : decode cX0_actAgain 34 = .ok (.aload_n 0, 1) := by decide +kernel
theorem dX0_actAgain_35 : decode cX0_actAgain 35 = .ok (.getfield 27, 3) := by decide +kernel
theorem dX0_actAgain_38 : decode cX0_actAgain 38 = .ok (.getfield 62, 3) := by decide +kernel
theorem dX0_actAgain_41 : decode cX0_actAgain 41 = .ok (.if_icmp .ge 31, 3) := by decide +kernel
theorem dX0_actAgain_44 : decode cX0_actAgain 44 = .ok (.aload_n 0, 1) := by decide +kernel
theorem dX0_actAgain_45 : decode cX0_actAgain 45 = .ok (.aload_n 0, 1) := by decide +kernel
theorem dX0_actAgain_46 : decode cX0_actAgain 46 = .ok (.getfield 27, 3) := by decide +kernel
theorem dX0_actAgain_49 : decode cX0_actAgain 49 = .ok (.getfield 106, 3) := by decide +kernel
theorem dX0_actAgain_52 : decode cX0_actAgain 52 = .ok (.iload_n 1, 1) := by decide +kernel
theorem dX0_actAgain_53 : decode cX0_actAgain 53 = .ok (.iaload, 1) := by decide +kernel
theorem dX0_actAgain_54 : decode cX0_actAgain 54 = .ok (.aload_n 0, 1) := by decide +kernel
theorem dX0_actAgain_55 : decode cX0_actAgain 55 = .ok (.getfield 27, 3) := by decide +kernel
theorem dX0_actAgain_58 : decode cX0_actAgain 58 = .ok (.getfield 109, 3) := by decide +kernel
theorem dX0_actAgain_61 : decode cX0_actAgain 61 = .ok (.iload_n 1, 1) := by decide +kernel
theorem dX0_actAgain_62 : decode cX0_actAgain 62 = .ok (.iaload, 1) := by decide +kernel
theorem dX0_actAgain_63 : decode cX0_actAgain 63 = .ok (.invokevirtual 100, 3) := by decide +kernel
theorem dX0_actAgain_66 : decode cX0_actAgain 66 = .ok (.iinc 1 1, 3) := by decide +kernel
theorem dX0_actAgain_69 : decode cX0_actAgain 69 = .ok (.goto (-36), 3) := by decide +kernel
theorem dX0_actAgain_72 : decode cX0_actAgain 72 = .ok (.return_, 1) := by decide +kernel
theorem dX0_act_0 : decode cX0_act 0 = .ok (.iload_n 1, 1) := by decide +kernel
theorem dX0_act_1 : decode cX0_act 1 = .ok (.tableswitch 116 0 2 #[27, 43, 61], 27) := by decide +kernel
theorem dX0_act_28 : decode cX0_act 28 = .ok (.aload_n 0, 1) := by decide +kernel
theorem dX0_act_29 : decode cX0_act 29 = .ok (.aload_n 0, 1) := by decide +kernel
theorem dX0_act_30 : decode cX0_act 30 = .ok (.getfield 31, 3) := by decide +kernel
theorem dX0_act_33 : decode cX0_act 33 = .ok (.iload_n 2, 1) := by decide +kernel
theorem dX0_act_34 : decode cX0_act 34 = .ok (.iadd, 1) := by decide +kernel
theorem dX0_act_35 : decode cX0_act 35 = .ok (.invokestatic 112, 3) := by decide +kernel
theorem dX0_act_38 : decode cX0_act 38 = .ok (.putfield 31, 3) := by decide +kernel
theorem dX0_act_41 : decode cX0_act 41 = .ok (.goto 76, 3) := by decide +kernel
theorem dX0_act_44 : decode cX0_act 44 = .ok (.aload_n 0, 1) := by decide +kernel
theorem dX0_act_45 : decode cX0_act 45 = .ok (.getfield 11, 3) := by decide +kernel
theorem dX0_act_48 : decode cX0_act 48 = .ok (.iload_n 2, 1) := by decide +kernel
theorem dX0_act_49 : decode cX0_act 49 = .ok (.aaload, 1) := by decide +kernel
theorem dX0_act_50 : decode cX0_act 50 = .ok (.dup, 1) := by decide +kernel
theorem dX0_act_51 : decode cX0_act 51 = .ok (.getfield 90, 3) := by decide +kernel
theorem dX0_act_54 : decode cX0_act 54 = .ok (.iconst 1, 1) := by decide +kernel
theorem dX0_act_55 : decode cX0_act 55 = .ok (.iadd, 1) := by decide +kernel
theorem dX0_act_56 : decode cX0_act 56 = .ok (.putfield 90, 3) := by decide +kernel
theorem dX0_act_59 : decode cX0_act 59 = .ok (.goto 58, 3) := by decide +kernel
theorem dX0_act_62 : decode cX0_act 62 = .ok (.aload_n 0, 1) := by decide +kernel
theorem dX0_act_63 : decode cX0_act 63 = .ok (.getfield 11, 3) := by decide +kernel
theorem dX0_act_66 : decode cX0_act 66 = .ok (.iload_n 2, 1) := by decide +kernel
theorem dX0_act_67 : decode cX0_act 67 = .ok (.aaload, 1) := by decide +kernel
theorem dX0_act_68 : decode cX0_act 68 = .ok (.astore_n 3, 1) := by decide +kernel
theorem dX0_act_69 : decode cX0_act 69 = .ok (.aload_n 3, 1) := by decide +kernel
theorem dX0_act_70 : decode cX0_act 70 = .ok (.aload_n 0, 1) := by decide +kernel
theorem dX0_act_71 : decode cX0_act 71 = .ok (.aload_n 3, 1) := by decide +kernel
theorem dX0_act_72 : decode cX0_act 72 = .ok (.aload_n 0, 1) := by decide +kernel
theorem dX0_act_73 : decode cX0_act 73 = .ok (.getfield 31, 3) := by decide +kernel
theorem dX0_act_76 : decode cX0_act 76 = .ok (.invokevirtual 116, 3) := by decide +kernel
theorem dX0_act_79 : decode cX0_act 79 = .ok (.putfield 93, 3) := by decide +kernel
theorem dX0_act_82 : decode cX0_act 82 = .ok (.aload_n 3, 1) := by decide +kernel
theorem dX0_act_83 : decode cX0_act 83 = .ok (.aload_n 3, 1) := by decide +kernel
theorem dX0_act_84 : decode cX0_act 84 = .ok (.aload_n 3, 1) := by decide +kernel
theorem dX0_act_85 : decode cX0_act 85 = .ok (.getfield 93, 3) := by decide +kernel
theorem dX0_act_88 : decode cX0_act 88 = .ok (.invokevirtual 118, 3) := by decide +kernel
theorem dX0_act_91 : decode cX0_act 91 = .ok (.putfield 121, 3) := by decide +kernel
theorem dX0_act_94 : decode cX0_act 94 = .ok (.aload_n 0, 1) := by decide +kernel
theorem dX0_act_95 : decode cX0_act 95 = .ok (.aload_n 0, 1) := by decide +kernel
theorem dX0_act_96 : decode cX0_act 96 = .ok (.aload_n 3, 1) := by decide +kernel
theorem dX0_act_97 : decode cX0_act 97 = .ok (.getfield 93, 3) := by decide +kernel
theorem dX0_act_100 : decode cX0_act 100 = .ok (.aload_n 0, 1) := by decide +kernel
theorem dX0_act_101 : decode cX0_act 101 = .ok (.invokevirtual 125, 3) := by decide +kernel
theorem dX0_act_104 : decode cX0_act 104 = .ok (.aload_n 0, 1) := by decide +kernel
theorem dX0_act_105 : decode cX0_act 105 = .ok (.getfield 31, 3) := by decide +kernel
theorem dX0_act_108 : decode cX0_act 108 = .ok (.invokevirtual 128, 3) := by decide +kernel
theorem dX0_act_111 : decode cX0_act 111 = .ok (.putfield 31, 3) := by decide +kernel
theorem dX0_act_114 : decode cX0_act 114 = .ok (.goto 3, 3) := by decide +kernel
theorem dX0_act_117 : decode cX0_act 117 = .ok (.return_, 1) := by decide +kernel
theorem dX0_heatBehind_0 : decode cX0_heatBehind 0 = .ok (.iload_n 1, 1) := by decide +kernel
theorem dX0_heatBehind_1 : decode cX0_heatBehind 1 = .ok (.iconst 1, 1) := by decide +kernel
theorem dX0_heatBehind_2 : decode cX0_heatBehind 2 = .ok (.if_icmp .ne 20, 3) := by decide +kernel
theorem dX0_heatBehind_5 : decode cX0_heatBehind 5 = .ok (.iload_n 2, 1) := by decide +kernel
theorem dX0_heatBehind_6 : decode cX0_heatBehind 6 = .ok (.aload_n 0, 1) := by decide +kernel
theorem dX0_heatBehind_7 : decode cX0_heatBehind 7 = .ok (.getfield 50, 3) := by decide +kernel
theorem dX0_heatBehind_10 : decode cX0_heatBehind 10 = .ok (.if_icmp .lt 12, 3) := by decide +kernel
theorem dX0_heatBehind_13 : decode cX0_heatBehind 13 = .ok (.iload_n 3, 1) := by decide +kernel
theorem dX0_heatBehind_14 : decode cX0_heatBehind 14 = .ok (.iconst 5, 1) := by decide +kernel
theorem dX0_heatBehind_15 : decode cX0_heatBehind 15 = .ok (.iadd, 1) := by decide +kernel
theorem dX0_heatBehind_16 : decode cX0_heatBehind 16 = .ok (.invokestatic 112, 3) := by decide +kernel
theorem dX0_heatBehind_19 : decode cX0_heatBehind 19 = .ok (.goto 4, 3) := by decide +kernel
theorem dX0_heatBehind_22 : decode cX0_heatBehind 22 = .ok (.iload_n 3, 1) := by decide +kernel
theorem dX0_heatBehind_23 : decode cX0_heatBehind 23 = .ok (.ireturn, 1) := by decide +kernel
theorem dX0_keptHeat_0 : decode cX0_keptHeat 0 = .ok (.iconst 0, 1) := by decide +kernel
theorem dX0_keptHeat_1 : decode cX0_keptHeat 1 = .ok (.bipush 30, 2) := by decide +kernel
theorem dX0_keptHeat_3 : decode cX0_keptHeat 3 = .ok (.iload_n 0, 1) := by decide +kernel
theorem dX0_keptHeat_4 : decode cX0_keptHeat 4 = .ok (.invokestatic 132, 3) := by decide +kernel
theorem dX0_keptHeat_7 : decode cX0_keptHeat 7 = .ok (.invokestatic 138, 3) := by decide +kernel
theorem dX0_keptHeat_10 : decode cX0_keptHeat 10 = .ok (.ireturn, 1) := by decide +kernel
theorem dX0_felt_0 : decode cX0_felt 0 = .ok (.iload_n 2, 1) := by decide +kernel
theorem dX0_felt_1 : decode cX0_felt 1 = .ok (.istore_n 3, 1) := by decide +kernel
theorem dX0_felt_2 : decode cX0_felt 2 = .ok (.aload_n 1, 1) := by decide +kernel
theorem dX0_felt_3 : decode cX0_felt 3 = .ok (.getfield 72, 3) := by decide +kernel
theorem dX0_felt_6 : decode cX0_felt 6 = .ok (.iconst 5, 1) := by decide +kernel
theorem dX0_felt_7 : decode cX0_felt 7 = .ok (.if_icmp .lt 22, 3) := by decide +kernel
theorem dX0_felt_10 : decode cX0_felt 10 = .ok (.iload_n 2, 1) := by decide +kernel
theorem dX0_felt_11 : decode cX0_felt 11 = .ok (.aload_n 0, 1) := by decide +kernel
theorem dX0_felt_12 : decode cX0_felt 12 = .ok (.getfield 44, 3) := by decide +kernel
theorem dX0_felt_15 : decode cX0_felt 15 = .ok (.if_icmp .le 12, 3) := by decide +kernel
theorem dX0_felt_18 : decode cX0_felt 18 = .ok (.iload_n 2, 1) := by decide +kernel
theorem dX0_felt_19 : decode cX0_felt 19 = .ok (.aload_n 0, 1) := by decide +kernel
theorem dX0_felt_20 : decode cX0_felt 20 = .ok (.getfield 44, 3) := by decide +kernel
theorem dX0_felt_23 : decode cX0_felt 23 = .ok (.isub, 1) := by decide +kernel
theorem dX0_felt_24 : decode cX0_felt 24 = .ok (.goto 4, 3) := by decide +kernel
theorem dX0_felt_27 : decode cX0_felt 27 = .ok (.iconst 0, 1) := by decide +kernel
theorem dX0_felt_28 : decode cX0_felt 28 = .ok (.istore_n 3, 1) := by decide +kernel
theorem dX0_felt_29 : decode cX0_felt 29 = .ok (.aload_n 1, 1) := by decide +kernel
theorem dX0_felt_30 : decode cX0_felt 30 = .ok (.getfield 66, 3) := by decide +kernel
theorem dX0_felt_33 : decode cX0_felt 33 = .ok (.iconst 5, 1) := by decide +kernel
theorem dX0_felt_34 : decode cX0_felt 34 = .ok (.if_icmp .ne 9, 3) := by decide +kernel
theorem dX0_felt_37 : decode cX0_felt 37 = .ok (.iload_n 3, 1) := by decide +kernel
theorem dX0_felt_38 : decode cX0_felt 38 = .ok (.iconst 2, 1) := by decide +kernel
theorem dX0_felt_39 : decode cX0_felt 39 = .ok (.idiv, 1) := by decide +kernel
theorem dX0_felt_40 : decode cX0_felt 40 = .ok (.goto 4, 3) := by decide +kernel
theorem dX0_felt_43 : decode cX0_felt 43 = .ok (.iload_n 3, 1) := by decide +kernel
theorem dX0_felt_44 : decode cX0_felt 44 = .ok (.ireturn, 1) := by decide +kernel
theorem dX0_burn_0 : decode cX0_burn 0 = .ok (.iconst 0, 1) := by decide +kernel
theorem dX0_burn_1 : decode cX0_burn 1 = .ok (.aload_n 0, 1) := by decide +kernel
theorem dX0_burn_2 : decode cX0_burn 2 = .ok (.getfield 41, 3) := by decide +kernel
theorem dX0_burn_5 : decode cX0_burn 5 = .ok (.aload_n 0, 1) := by decide +kernel
theorem dX0_burn_6 : decode cX0_burn 6 = .ok (.aload_n 1, 1) := by decide +kernel
theorem dX0_burn_7 : decode cX0_burn 7 = .ok (.iload_n 2, 1) := by decide +kernel
theorem dX0_burn_8 : decode cX0_burn 8 = .ok (.invokevirtual 141, 3) := by decide +kernel
theorem dX0_burn_11 : decode cX0_burn 11 = .ok (.imul, 1) := by decide +kernel
theorem dX0_burn_12 : decode cX0_burn 12 = .ok (.aload_n 1, 1) := by decide +kernel
theorem dX0_burn_13 : decode cX0_burn 13 = .ok (.invokevirtual 75, 3) := by decide +kernel
theorem dX0_burn_16 : decode cX0_burn 16 = .ok (.isub, 1) := by decide +kernel
theorem dX0_burn_17 : decode cX0_burn 17 = .ok (.invokestatic 138, 3) := by decide +kernel
theorem dX0_burn_20 : decode cX0_burn 20 = .ok (.ireturn, 1) := by decide +kernel
theorem dX0_lacking_0 : decode cX0_lacking 0 = .ok (.aload_n 0, 1) := by decide +kernel
theorem dX0_lacking_1 : decode cX0_lacking 1 = .ok (.aload_n 1, 1) := by decide +kernel
theorem dX0_lacking_2 : decode cX0_lacking 2 = .ok (.iload_n 2, 1) := by decide +kernel
theorem dX0_lacking_3 : decode cX0_lacking 3 = .ok (.invokevirtual 79, 3) := by decide +kernel
theorem dX0_lacking_6 : decode cX0_lacking 6 = .ok (.aload_n 0, 1) := by decide +kernel
theorem dX0_lacking_7 : decode cX0_lacking 7 = .ok (.getfield 47, 3) := by decide +kernel
theorem dX0_lacking_10 : decode cX0_lacking 10 = .ok (.isub, 1) := by decide +kernel
theorem dX0_lacking_11 : decode cX0_lacking 11 = .ok (.iconst 2, 1) := by decide +kernel
theorem dX0_lacking_12 : decode cX0_lacking 12 = .ok (.aload_n 1, 1) := by decide +kernel
theorem dX0_lacking_13 : decode cX0_lacking 13 = .ok (.getfield 90, 3) := by decide +kernel
theorem dX0_lacking_16 : decode cX0_lacking 16 = .ok (.imul, 1) := by decide +kernel
theorem dX0_lacking_17 : decode cX0_lacking 17 = .ok (.isub, 1) := by decide +kernel
theorem dX0_lacking_18 : decode cX0_lacking 18 = .ok (.ireturn, 1) := by decide +kernel
theorem dX0_verdict_0 : decode cX0_verdict 0 = .ok (.aload_n 1, 1) := by decide +kernel
theorem dX0_verdict_1 : decode cX0_verdict 1 = .ok (.iload_n 2, 1) := by decide +kernel
theorem dX0_verdict_2 : decode cX0_verdict 2 = .ok (.invokevirtual 83, 3) := by decide +kernel
theorem dX0_verdict_5 : decode cX0_verdict 5 = .ok (.ifCond .ne 5, 3) := by decide +kernel
theorem dX0_verdict_8 : decode cX0_verdict 8 = .ok (.iconst 2, 1) := by decide +kernel
theorem dX0_verdict_9 : decode cX0_verdict 9 = .ok (.ireturn, 1) := by decide +kernel
theorem dX0_verdict_10 : decode cX0_verdict 10 = .ok (.aload_n 0, 1) := by decide +kernel
theorem dX0_verdict_11 : decode cX0_verdict 11 = .ok (.aload_n 1, 1) := by decide +kernel
theorem dX0_verdict_12 : decode cX0_verdict 12 = .ok (.iload_n 2, 1) := by decide +kernel
theorem dX0_verdict_13 : decode cX0_verdict 13 = .ok (.invokevirtual 87, 3) := by decide +kernel
theorem dX0_verdict_16 : decode cX0_verdict 16 = .ok (.ifCond .le 7, 3) := by decide +kernel
theorem dX0_verdict_19 : decode cX0_verdict 19 = .ok (.iconst 0, 1) := by decide +kernel
theorem dX0_verdict_20 : decode cX0_verdict 20 = .ok (.goto 4, 3) := by decide +kernel
theorem dX0_verdict_23 : decode cX0_verdict 23 = .ok (.iconst 1, 1) := by decide +kernel
theorem dX0_verdict_24 : decode cX0_verdict 24 = .ok (.ireturn, 1) := by decide +kernel
theorem dX0_heatToSpare_0 : decode cX0_heatToSpare 0 = .ok (.iconst 0, 1) := by decide +kernel
theorem dX0_heatToSpare_1 : decode cX0_heatToSpare 1 = .ok (.istore_n 2, 1) := by decide +kernel
theorem dX0_heatToSpare_2 : decode cX0_heatToSpare 2 = .ok (.aload_n 0, 1) := by decide +kernel
theorem dX0_heatToSpare_3 : decode cX0_heatToSpare 3 = .ok (.getfield 31, 3) := by decide +kernel
theorem dX0_heatToSpare_6 : decode cX0_heatToSpare 6 = .ok (.iload_n 2, 1) := by decide +kernel
theorem dX0_heatToSpare_7 : decode cX0_heatToSpare 7 = .ok (.iadd, 1) := by decide +kernel
theorem dX0_heatToSpare_8 : decode cX0_heatToSpare 8 = .ok (.bipush 30, 2) := by decide +kernel
theorem dX0_heatToSpare_10 : decode cX0_heatToSpare 10 = .ok (.if_icmp .ge 25, 3) := by decide +kernel
theorem dX0_heatToSpare_13 : decode cX0_heatToSpare 13 = .ok (.aload_n 0, 1) := by decide +kernel
theorem dX0_heatToSpare_14 : decode cX0_heatToSpare 14 = .ok (.aload_n 1, 1) := by decide +kernel
theorem dX0_heatToSpare_15 : decode cX0_heatToSpare 15 = .ok (.aload_n 0, 1) := by decide +kernel
theorem dX0_heatToSpare_16 : decode cX0_heatToSpare 16 = .ok (.getfield 31, 3) := by decide +kernel
theorem dX0_heatToSpare_19 : decode cX0_heatToSpare 19 = .ok (.iload_n 2, 1) := by decide +kernel
theorem dX0_heatToSpare_20 : decode cX0_heatToSpare 20 = .ok (.iadd, 1) := by decide +kernel
theorem dX0_heatToSpare_21 : decode cX0_heatToSpare 21 = .ok (.iconst 1, 1) := by decide +kernel
theorem dX0_heatToSpare_22 : decode cX0_heatToSpare 22 = .ok (.iadd, 1) := by decide +kernel
theorem dX0_heatToSpare_23 : decode cX0_heatToSpare 23 = .ok (.invokevirtual 87, 3) := by decide +kernel
theorem dX0_heatToSpare_26 : decode cX0_heatToSpare 26 = .ok (.ifCond .gt 9, 3) := by decide +kernel
theorem dX0_heatToSpare_29 : decode cX0_heatToSpare 29 = .ok (.iinc 2 1, 3) := by decide +kernel
theorem dX0_heatToSpare_32 : decode cX0_heatToSpare 32 = .ok (.goto (-30), 3) := by decide +kernel
theorem dX0_heatToSpare_35 : decode cX0_heatToSpare 35 = .ok (.iload_n 2, 1) := by decide +kernel
theorem dX0_heatToSpare_36 : decode cX0_heatToSpare 36 = .ok (.ireturn, 1) := by decide +kernel
theorem dX0_mustBeCleared_0 : decode cX0_mustBeCleared 0 = .ok (.aload_n 1, 1) := by decide +kernel
theorem dX0_mustBeCleared_1 : decode cX0_mustBeCleared 1 = .ok (.invokevirtual 144, 3) := by decide +kernel
theorem dX0_mustBeCleared_4 : decode cX0_mustBeCleared 4 = .ok (.ifCond .ne 25, 3) := by decide +kernel
theorem dX0_mustBeCleared_7 : decode cX0_mustBeCleared 7 = .ok (.aload_n 1, 1) := by decide +kernel
theorem dX0_mustBeCleared_8 : decode cX0_mustBeCleared 8 = .ok (.getfield 69, 3) := by decide +kernel
theorem dX0_mustBeCleared_11 : decode cX0_mustBeCleared 11 = .ok (.ifCond .ne 18, 3) := by decide +kernel
theorem dX0_mustBeCleared_14 : decode cX0_mustBeCleared 14 = .ok (.aload_n 1, 1) := by decide +kernel
theorem dX0_mustBeCleared_15 : decode cX0_mustBeCleared 15 = .ok (.aload_n 0, 1) := by decide +kernel
theorem dX0_mustBeCleared_16 : decode cX0_mustBeCleared 16 = .ok (.getfield 31, 3) := by decide +kernel
theorem dX0_mustBeCleared_19 : decode cX0_mustBeCleared 19 = .ok (.invokevirtual 83, 3) := by decide +kernel
theorem dX0_mustBeCleared_22 : decode cX0_mustBeCleared 22 = .ok (.ifCond .eq 7, 3) := by decide +kernel
theorem dX0_mustBeCleared_25 : decode cX0_mustBeCleared 25 = .ok (.iconst 1, 1) := by decide +kernel
theorem dX0_mustBeCleared_26 : decode cX0_mustBeCleared 26 = .ok (.goto 4, 3) := by decide +kernel
theorem dX0_mustBeCleared_29 : decode cX0_mustBeCleared 29 = .ok (.iconst 0, 1) := by decide +kernel
theorem dX0_mustBeCleared_30 : decode cX0_mustBeCleared 30 = .ok (.ireturn, 1) := by decide +kernel
theorem dX0_salveNeeded_0 : decode cX0_salveNeeded 0 = .ok (.iconst 0, 1) := by decide +kernel
theorem dX0_salveNeeded_1 : decode cX0_salveNeeded 1 = .ok (.aload_n 0, 1) := by decide +kernel
theorem dX0_salveNeeded_2 : decode cX0_salveNeeded 2 = .ok (.aload_n 1, 1) := by decide +kernel
theorem dX0_salveNeeded_3 : decode cX0_salveNeeded 3 = .ok (.aload_n 0, 1) := by decide +kernel
theorem dX0_salveNeeded_4 : decode cX0_salveNeeded 4 = .ok (.getfield 31, 3) := by decide +kernel
theorem dX0_salveNeeded_7 : decode cX0_salveNeeded 7 = .ok (.invokevirtual 87, 3) := by decide +kernel
theorem dX0_salveNeeded_10 : decode cX0_salveNeeded 10 = .ok (.iconst 1, 1) := by decide +kernel
theorem dX0_salveNeeded_11 : decode cX0_salveNeeded 11 = .ok (.iadd, 1) := by decide +kernel
theorem dX0_salveNeeded_12 : decode cX0_salveNeeded 12 = .ok (.iconst 2, 1) := by decide +kernel
theorem dX0_salveNeeded_13 : decode cX0_salveNeeded 13 = .ok (.idiv, 1) := by decide +kernel
theorem dX0_salveNeeded_14 : decode cX0_salveNeeded 14 = .ok (.invokestatic 138, 3) := by decide +kernel
theorem dX0_salveNeeded_17 : decode cX0_salveNeeded 17 = .ok (.ireturn, 1) := by decide +kernel
theorem dX0_cleanChances_0 : decode cX0_cleanChances 0 = .ok (.aload_n 0, 1) := by decide +kernel
theorem dX0_cleanChances_1 : decode cX0_cleanChances 1 = .ok (.aload_n 1, 1) := by decide +kernel
theorem dX0_cleanChances_2 : decode cX0_cleanChances 2 = .ok (.aload_n 0, 1) := by decide +kernel
theorem dX0_cleanChances_3 : decode cX0_cleanChances 3 = .ok (.getfield 31, 3) := by decide +kernel
theorem dX0_cleanChances_6 : decode cX0_cleanChances 6 = .ok (.invokevirtual 87, 3) := by decide +kernel
theorem dX0_cleanChances_9 : decode cX0_cleanChances 9 = .ok (.istore_n 3, 1) := by decide +kernel
theorem dX0_cleanChances_10 : decode cX0_cleanChances 10 = .ok (.iload_n 3, 1) := by decide +kernel
theorem dX0_cleanChances_11 : decode cX0_cleanChances 11 = .ok (.ifCond .le 5, 3) := by decide +kernel
theorem dX0_cleanChances_14 : decode cX0_cleanChances 14 = .ok (.iconst 0, 1) := by decide +kernel
theorem dX0_cleanChances_15 : decode cX0_cleanChances 15 = .ok (.ireturn, 1) := by decide +kernel
theorem dX0_cleanChances_16 : decode cX0_cleanChances 16 = .ok (.iload_n 3, 1) := by decide +kernel
theorem dX0_cleanChances_17 : decode cX0_cleanChances 17 = .ok (.iconst 3, 1) := by decide +kernel
theorem dX0_cleanChances_18 : decode cX0_cleanChances 18 = .ok (.iadd, 1) := by decide +kernel
theorem dX0_cleanChances_19 : decode cX0_cleanChances 19 = .ok (.ifCond .le 10, 3) := by decide +kernel
theorem dX0_cleanChances_22 : decode cX0_cleanChances 22 = .ok (.bipush 12, 2) := by decide +kernel
theorem dX0_cleanChances_24 : decode cX0_cleanChances 24 = .ok (.iload_n 2, 1) := by decide +kernel
theorem dX0_cleanChances_25 : decode cX0_cleanChances 25 = .ok (.isub, 1) := by decide +kernel
theorem dX0_cleanChances_26 : decode cX0_cleanChances 26 = .ok (.goto 5, 3) := by decide +kernel
theorem dX0_cleanChances_29 : decode cX0_cleanChances 29 = .ok (.bipush 12, 2) := by decide +kernel
theorem dX0_cleanChances_31 : decode cX0_cleanChances 31 = .ok (.ireturn, 1) := by decide +kernel
theorem dX0_likeOf_0 : decode cX0_likeOf 0 = .ok (.aload_n 0, 1) := by decide +kernel
theorem dX0_likeOf_1 : decode cX0_likeOf 1 = .ok (.getfield 18, 3) := by decide +kernel
theorem dX0_likeOf_4 : decode cX0_likeOf 4 = .ok (.aload_n 1, 1) := by decide +kernel
theorem dX0_likeOf_5 : decode cX0_likeOf 5 = .ok (.getfield 66, 3) := by decide +kernel
theorem dX0_likeOf_8 : decode cX0_likeOf 8 = .ok (.aload_n 1, 1) := by decide +kernel
theorem dX0_likeOf_9 : decode cX0_likeOf 9 = .ok (.getfield 69, 3) := by decide +kernel
theorem dX0_likeOf_12 : decode cX0_likeOf 12 = .ok (.aload_n 1, 1) := by decide +kernel
theorem dX0_likeOf_13 : decode cX0_likeOf 13 = .ok (.getfield 72, 3) := by decide +kernel
theorem dX0_likeOf_16 : decode cX0_likeOf 16 = .ok (.aload_n 1, 1) := by decide +kernel
theorem dX0_likeOf_17 : decode cX0_likeOf 17 = .ok (.getfield 148, 3) := by decide +kernel
theorem dX0_likeOf_20 : decode cX0_likeOf 20 = .ok (.invokevirtual 58, 3) := by decide +kernel
theorem dX0_likeOf_23 : decode cX0_likeOf 23 = .ok (.aload_n 0, 1) := by decide +kernel
theorem dX0_likeOf_24 : decode cX0_likeOf 24 = .ok (.getfield 18, 3) := by decide +kernel
theorem dX0_likeOf_27 : decode cX0_likeOf 27 = .ok (.aload_n 1, 1) := by decide +kernel
theorem dX0_likeOf_28 : decode cX0_likeOf 28 = .ok (.getfield 90, 3) := by decide +kernel
theorem dX0_likeOf_31 : decode cX0_likeOf 31 = .ok (.putfield 90, 3) := by decide +kernel
theorem dX0_likeOf_34 : decode cX0_likeOf 34 = .ok (.aload_n 0, 1) := by decide +kernel
theorem dX0_likeOf_35 : decode cX0_likeOf 35 = .ok (.getfield 18, 3) := by decide +kernel
theorem dX0_likeOf_38 : decode cX0_likeOf 38 = .ok (.areturn, 1) := by decide +kernel
theorem dX0_likeButPlain_0 : decode cX0_likeButPlain 0 = .ok (.aload_n 0, 1) := by decide +kernel
theorem dX0_likeButPlain_1 : decode cX0_likeButPlain 1 = .ok (.aload_n 1, 1) := by decide +kernel
theorem dX0_likeButPlain_2 : decode cX0_likeButPlain 2 = .ok (.invokevirtual 151, 3) := by decide +kernel
theorem dX0_likeButPlain_5 : decode cX0_likeButPlain 5 = .ok (.astore_n 2, 1) := by decide +kernel
theorem dX0_likeButPlain_6 : decode cX0_likeButPlain 6 = .ok (.aload_n 2, 1) := by decide +kernel
theorem dX0_likeButPlain_7 : decode cX0_likeButPlain 7 = .ok (.iconst 0, 1) := by decide +kernel
theorem dX0_likeButPlain_8 : decode cX0_likeButPlain 8 = .ok (.putfield 66, 3) := by decide +kernel
theorem dX0_likeButPlain_11 : decode cX0_likeButPlain 11 = .ok (.aload_n 2, 1) := by decide +kernel
theorem dX0_likeButPlain_12 : decode cX0_likeButPlain 12 = .ok (.areturn, 1) := by decide +kernel
theorem dX0_wouldTell_0 : decode cX0_wouldTell 0 = .ok (.iconst 0, 1) := by decide +kernel
theorem dX0_wouldTell_1 : decode cX0_wouldTell 1 = .ok (.istore_n 3, 1) := by decide +kernel
theorem dX0_wouldTell_2 : decode cX0_wouldTell 2 = .ok (.iload_n 3, 1) := by decide +kernel
theorem dX0_wouldTell_3 : decode cX0_wouldTell 3 = .ok (.iconst 1, 1) := by decide +kernel
theorem dX0_wouldTell_4 : decode cX0_wouldTell 4 = .ok (.iadd, 1) := by decide +kernel
theorem dX0_wouldTell_5 : decode cX0_wouldTell 5 = .ok (.aload_n 2, 1) := by decide +kernel
theorem dX0_wouldTell_6 : decode cX0_wouldTell 6 = .ok (.getfield 155, 3) := by decide +kernel
theorem dX0_wouldTell_9 : decode cX0_wouldTell 9 = .ok (.if_icmp .ge 33, 3) := by decide +kernel
theorem dX0_wouldTell_12 : decode cX0_wouldTell 12 = .ok (.aload_n 0, 1) := by decide +kernel
theorem dX0_wouldTell_13 : decode cX0_wouldTell 13 = .ok (.aload_n 1, 1) := by decide +kernel
theorem dX0_wouldTell_14 : decode cX0_wouldTell 14 = .ok (.aload_n 2, 1) := by decide +kernel
theorem dX0_wouldTell_15 : decode cX0_wouldTell 15 = .ok (.getfield 158, 3) := by decide +kernel
theorem dX0_wouldTell_18 : decode cX0_wouldTell 18 = .ok (.iload_n 3, 1) := by decide +kernel
theorem dX0_wouldTell_19 : decode cX0_wouldTell 19 = .ok (.iaload, 1) := by decide +kernel
theorem dX0_wouldTell_20 : decode cX0_wouldTell 20 = .ok (.invokevirtual 116, 3) := by decide +kernel
theorem dX0_wouldTell_23 : decode cX0_wouldTell 23 = .ok (.aload_n 2, 1) := by decide +kernel
theorem dX0_wouldTell_24 : decode cX0_wouldTell 24 = .ok (.getfield 158, 3) := by decide +kernel
theorem dX0_wouldTell_27 : decode cX0_wouldTell 27 = .ok (.iload_n 3, 1) := by decide +kernel
theorem dX0_wouldTell_28 : decode cX0_wouldTell 28 = .ok (.iconst 1, 1) := by decide +kernel
theorem dX0_wouldTell_29 : decode cX0_wouldTell 29 = .ok (.iadd, 1) := by decide +kernel
theorem dX0_wouldTell_30 : decode cX0_wouldTell 30 = .ok (.iaload, 1) := by decide +kernel
theorem dX0_wouldTell_31 : decode cX0_wouldTell 31 = .ok (.if_icmp .eq 5, 3) := by decide +kernel
theorem dX0_wouldTell_34 : decode cX0_wouldTell 34 = .ok (.iconst 0, 1) := by decide +kernel
theorem dX0_wouldTell_35 : decode cX0_wouldTell 35 = .ok (.ireturn, 1) := by decide +kernel
theorem dX0_wouldTell_36 : decode cX0_wouldTell 36 = .ok (.iinc 3 2, 3) := by decide +kernel
theorem dX0_wouldTell_39 : decode cX0_wouldTell 39 = .ok (.goto (-37), 3) := by decide +kernel
theorem dX0_wouldTell_42 : decode cX0_wouldTell 42 = .ok (.iconst 1, 1) := by decide +kernel
theorem dX0_wouldTell_43 : decode cX0_wouldTell 43 = .ok (.ireturn, 1) := by decide +kernel
theorem dX0_guiltyWrongly_0 : decode cX0_guiltyWrongly 0 = .ok (.iconst 0, 1) := by decide +kernel
theorem dX0_guiltyWrongly_1 : decode cX0_guiltyWrongly 1 = .ok (.istore_n 2, 1) := by decide +kernel
theorem dX0_guiltyWrongly_2 : decode cX0_guiltyWrongly 2 = .ok (.iconst 0, 1) := by decide +kernel
theorem dX0_guiltyWrongly_3 : decode cX0_guiltyWrongly 3 = .ok (.istore_n 3, 1) := by decide +kernel
theorem dX0_guiltyWrongly_4 : decode cX0_guiltyWrongly 4 = .ok (.iload_n 3, 1) := by decide +kernel
theorem dX0_guiltyWrongly_5 : decode cX0_guiltyWrongly 5 = .ok (.aload_n 0, 1) := by decide +kernel
theorem dX0_guiltyWrongly_6 : decode cX0_guiltyWrongly 6 = .ok (.getfield 55, 3) := by decide +kernel
theorem dX0_guiltyWrongly_9 : decode cX0_guiltyWrongly 9 = .ok (.if_icmp .ge 44, 3) := by decide +kernel
theorem dX0_guiltyWrongly_12 : decode cX0_guiltyWrongly 12 = .ok (.iload_n 2, 1) := by decide +kernel
theorem dX0_guiltyWrongly_13 : decode cX0_guiltyWrongly 13 = .ok (.aload_n 0, 1) := by decide +kernel
theorem dX0_guiltyWrongly_14 : decode cX0_guiltyWrongly 14 = .ok (.getfield 11, 3) := by decide +kernel
theorem dX0_guiltyWrongly_17 : decode cX0_guiltyWrongly 17 = .ok (.iload_n 3, 1) := by decide +kernel
theorem dX0_guiltyWrongly_18 : decode cX0_guiltyWrongly 18 = .ok (.aaload, 1) := by decide +kernel
theorem dX0_guiltyWrongly_19 : decode cX0_guiltyWrongly 19 = .ok (.getfield 69, 3) := by decide +kernel
theorem dX0_guiltyWrongly_22 : decode cX0_guiltyWrongly 22 = .ok (.iconst 1, 1) := by decide +kernel
theorem dX0_guiltyWrongly_23 : decode cX0_guiltyWrongly 23 = .ok (.if_icmp .ne 21, 3) := by decide +kernel
theorem dX0_guiltyWrongly_26 : decode cX0_guiltyWrongly 26 = .ok (.aload_n 0, 1) := by decide +kernel
theorem dX0_guiltyWrongly_27 : decode cX0_guiltyWrongly 27 = .ok (.aload_n 0, 1) := by decide +kernel
theorem dX0_guiltyWrongly_28 : decode cX0_guiltyWrongly 28 = .ok (.getfield 11, 3) := by decide +kernel
theorem dX0_guiltyWrongly_31 : decode cX0_guiltyWrongly 31 = .ok (.iload_n 3, 1) := by decide +kernel
theorem dX0_guiltyWrongly_32 : decode cX0_guiltyWrongly 32 = .ok (.aaload, 1) := by decide +kernel
theorem dX0_guiltyWrongly_33 : decode cX0_guiltyWrongly 33 = .ok (.iload_n 1, 1) := by decide +kernel
theorem dX0_guiltyWrongly_34 : decode cX0_guiltyWrongly 34 = .ok (.invokevirtual 161, 3) := by decide +kernel
theorem dX0_guiltyWrongly_37 : decode cX0_guiltyWrongly 37 = .ok (.ifCond .eq 7, 3) := by decide +kernel
theorem dX0_guiltyWrongly_40 : decode cX0_guiltyWrongly 40 = .ok (.iconst 1, 1) := by decide +kernel
theorem dX0_guiltyWrongly_41 : decode cX0_guiltyWrongly 41 = .ok (.goto 4, 3) := by decide +kernel
theorem dX0_guiltyWrongly_44 : decode cX0_guiltyWrongly 44 = .ok (.iconst 0, 1) := by decide +kernel
theorem dX0_guiltyWrongly_45 : decode cX0_guiltyWrongly 45 = .ok (.iadd, 1) := by decide +kernel
theorem dX0_guiltyWrongly_46 : decode cX0_guiltyWrongly 46 = .ok (.istore_n 2, 1) := by decide +kernel
theorem dX0_guiltyWrongly_47 : decode cX0_guiltyWrongly 47 = .ok (.iinc 3 1, 3) := by decide +kernel
theorem dX0_guiltyWrongly_50 : decode cX0_guiltyWrongly 50 = .ok (.goto (-46), 3) := by decide +kernel
theorem dX0_guiltyWrongly_53 : decode cX0_guiltyWrongly 53 = .ok (.iload_n 2, 1) := by decide +kernel
theorem dX0_guiltyWrongly_54 : decode cX0_guiltyWrongly 54 = .ok (.ireturn, 1) := by decide +kernel
theorem dX0_allWrongly_0 : decode cX0_allWrongly 0 = .ok (.iconst 0, 1) := by decide +kernel
theorem dX0_allWrongly_1 : decode cX0_allWrongly 1 = .ok (.istore_n 2, 1) := by decide +kernel
theorem dX0_allWrongly_2 : decode cX0_allWrongly 2 = .ok (.iconst 0, 1) := by decide +kernel
theorem dX0_allWrongly_3 : decode cX0_allWrongly 3 = .ok (.istore_n 3, 1) := by decide +kernel
theorem dX0_allWrongly_4 : decode cX0_allWrongly 4 = .ok (.iload_n 3, 1) := by decide +kernel
theorem dX0_allWrongly_5 : decode cX0_allWrongly 5 = .ok (.aload_n 0, 1) := by decide +kernel
theorem dX0_allWrongly_6 : decode cX0_allWrongly 6 = .ok (.getfield 55, 3) := by decide +kernel
theorem dX0_allWrongly_9 : decode cX0_allWrongly 9 = .ok (.if_icmp .ge 31, 3) := by decide +kernel
theorem dX0_allWrongly_12 : decode cX0_allWrongly 12 = .ok (.iload_n 2, 1) := by decide +kernel
theorem dX0_allWrongly_13 : decode cX0_allWrongly 13 = .ok (.aload_n 0, 1) := by decide +kernel
theorem dX0_allWrongly_14 : decode cX0_allWrongly 14 = .ok (.aload_n 0, 1) := by decide +kernel
theorem dX0_allWrongly_15 : decode cX0_allWrongly 15 = .ok (.getfield 11, 3) := by decide +kernel
theorem dX0_allWrongly_18 : decode cX0_allWrongly 18 = .ok (.iload_n 3, 1) := by decide +kernel
theorem dX0_allWrongly_19 : decode cX0_allWrongly 19 = .ok (.aaload, 1) := by decide +kernel
theorem dX0_allWrongly_20 : decode cX0_allWrongly 20 = .ok (.iload_n 1, 1) := by decide +kernel
theorem dX0_allWrongly_21 : decode cX0_allWrongly 21 = .ok (.invokevirtual 161, 3) := by decide +kernel
theorem dX0_allWrongly_24 : decode cX0_allWrongly 24 = .ok (.ifCond .eq 7, 3) := by decide +kernel
theorem dX0_allWrongly_27 : decode cX0_allWrongly 27 = .ok (.iconst 1, 1) := by decide +kernel
theorem dX0_allWrongly_28 : decode cX0_allWrongly 28 = .ok (.goto 4, 3) := by decide +kernel
theorem dX0_allWrongly_31 : decode cX0_allWrongly 31 = .ok (.iconst 0, 1) := by decide +kernel
theorem dX0_allWrongly_32 : decode cX0_allWrongly 32 = .ok (.iadd, 1) := by decide +kernel
theorem dX0_allWrongly_33 : decode cX0_allWrongly 33 = .ok (.istore_n 2, 1) := by decide +kernel
theorem dX0_allWrongly_34 : decode cX0_allWrongly 34 = .ok (.iinc 3 1, 3) := by decide +kernel
theorem dX0_allWrongly_37 : decode cX0_allWrongly 37 = .ok (.goto (-33), 3) := by decide +kernel
theorem dX0_allWrongly_40 : decode cX0_allWrongly 40 = .ok (.iload_n 2, 1) := by decide +kernel
theorem dX0_allWrongly_41 : decode cX0_allWrongly 41 = .ok (.ireturn, 1) := by decide +kernel
theorem dX0_wouldWrong_0 : decode cX0_wouldWrong 0 = .ok (.aload_n 1, 1) := by decide +kernel
theorem dX0_wouldWrong_1 : decode cX0_wouldWrong 1 = .ok (.invokevirtual 144, 3) := by decide +kernel
theorem dX0_wouldWrong_4 : decode cX0_wouldWrong 4 = .ok (.ifCond .ne 20, 3) := by decide +kernel
theorem dX0_wouldWrong_7 : decode cX0_wouldWrong 7 = .ok (.aload_n 1, 1) := by decide +kernel
theorem dX0_wouldWrong_8 : decode cX0_wouldWrong 8 = .ok (.aload_n 0, 1) := by decide +kernel
theorem dX0_wouldWrong_9 : decode cX0_wouldWrong 9 = .ok (.aload_n 1, 1) := by decide +kernel
theorem dX0_wouldWrong_10 : decode cX0_wouldWrong 10 = .ok (.iload_n 2, 1) := by decide +kernel
theorem dX0_wouldWrong_11 : decode cX0_wouldWrong 11 = .ok (.invokevirtual 116, 3) := by decide +kernel
theorem dX0_wouldWrong_14 : decode cX0_wouldWrong 14 = .ok (.invokevirtual 118, 3) := by decide +kernel
theorem dX0_wouldWrong_17 : decode cX0_wouldWrong 17 = .ok (.ifCond .eq 7, 3) := by decide +kernel
theorem dX0_wouldWrong_20 : decode cX0_wouldWrong 20 = .ok (.iconst 1, 1) := by decide +kernel
theorem dX0_wouldWrong_21 : decode cX0_wouldWrong 21 = .ok (.goto 4, 3) := by decide +kernel
theorem dX0_wouldWrong_24 : decode cX0_wouldWrong 24 = .ok (.iconst 0, 1) := by decide +kernel
theorem dX0_wouldWrong_25 : decode cX0_wouldWrong 25 = .ok (.ireturn, 1) := by decide +kernel
theorem dX0_foulOnes_0 : decode cX0_foulOnes 0 = .ok (.iconst 0, 1) := by decide +kernel
theorem dX0_foulOnes_1 : decode cX0_foulOnes 1 = .ok (.istore_n 2, 1) := by decide +kernel
theorem dX0_foulOnes_2 : decode cX0_foulOnes 2 = .ok (.iconst 0, 1) := by decide +kernel
theorem dX0_foulOnes_3 : decode cX0_foulOnes 3 = .ok (.istore_n 3, 1) := by decide +kernel
theorem dX0_foulOnes_4 : decode cX0_foulOnes 4 = .ok (.iload_n 3, 1) := by decide +kernel
theorem dX0_foulOnes_5 : decode cX0_foulOnes 5 = .ok (.aload_n 0, 1) := by decide +kernel
theorem dX0_foulOnes_6 : decode cX0_foulOnes 6 = .ok (.getfield 55, 3) := by decide +kernel
theorem dX0_foulOnes_9 : decode cX0_foulOnes 9 = .ok (.if_icmp .ge 43, 3) := by decide +kernel
theorem dX0_foulOnes_12 : decode cX0_foulOnes 12 = .ok (.iload_n 2, 1) := by decide +kernel
theorem dX0_foulOnes_13 : decode cX0_foulOnes 13 = .ok (.aload_n 0, 1) := by decide +kernel
theorem dX0_foulOnes_14 : decode cX0_foulOnes 14 = .ok (.getfield 11, 3) := by decide +kernel
theorem dX0_foulOnes_17 : decode cX0_foulOnes 17 = .ok (.iload_n 3, 1) := by decide +kernel
theorem dX0_foulOnes_18 : decode cX0_foulOnes 18 = .ok (.aaload, 1) := by decide +kernel
theorem dX0_foulOnes_19 : decode cX0_foulOnes 19 = .ok (.invokevirtual 144, 3) := by decide +kernel
theorem dX0_foulOnes_22 : decode cX0_foulOnes 22 = .ok (.ifCond .ne 21, 3) := by decide +kernel
theorem dX0_foulOnes_25 : decode cX0_foulOnes 25 = .ok (.aload_n 0, 1) := by decide +kernel
theorem dX0_foulOnes_26 : decode cX0_foulOnes 26 = .ok (.aload_n 0, 1) := by decide +kernel
theorem dX0_foulOnes_27 : decode cX0_foulOnes 27 = .ok (.getfield 11, 3) := by decide +kernel
theorem dX0_foulOnes_30 : decode cX0_foulOnes 30 = .ok (.iload_n 3, 1) := by decide +kernel
theorem dX0_foulOnes_31 : decode cX0_foulOnes 31 = .ok (.aaload, 1) := by decide +kernel
theorem dX0_foulOnes_32 : decode cX0_foulOnes 32 = .ok (.iload_n 1, 1) := by decide +kernel
theorem dX0_foulOnes_33 : decode cX0_foulOnes 33 = .ok (.invokevirtual 116, 3) := by decide +kernel
theorem dX0_foulOnes_36 : decode cX0_foulOnes 36 = .ok (.ifCond .ne 7, 3) := by decide +kernel
theorem dX0_foulOnes_39 : decode cX0_foulOnes 39 = .ok (.iconst 1, 1) := by decide +kernel
theorem dX0_foulOnes_40 : decode cX0_foulOnes 40 = .ok (.goto 4, 3) := by decide +kernel
theorem dX0_foulOnes_43 : decode cX0_foulOnes 43 = .ok (.iconst 0, 1) := by decide +kernel
theorem dX0_foulOnes_44 : decode cX0_foulOnes 44 = .ok (.iadd, 1) := by decide +kernel
theorem dX0_foulOnes_45 : decode cX0_foulOnes 45 = .ok (.istore_n 2, 1) := by decide +kernel
theorem dX0_foulOnes_46 : decode cX0_foulOnes 46 = .ok (.iinc 3 1, 3) := by decide +kernel
theorem dX0_foulOnes_49 : decode cX0_foulOnes 49 = .ok (.goto (-45), 3) := by decide +kernel
theorem dX0_foulOnes_52 : decode cX0_foulOnes 52 = .ok (.iload_n 2, 1) := by decide +kernel
theorem dX0_foulOnes_53 : decode cX0_foulOnes 53 = .ok (.ireturn, 1) := by decide +kernel
theorem dX0_heatsTelling_0 : decode cX0_heatsTelling 0 = .ok (.iconst 0, 1) := by decide +kernel
theorem dX0_heatsTelling_1 : decode cX0_heatsTelling 1 = .ok (.istore_n 3, 1) := by decide +kernel
theorem dX0_heatsTelling_2 : decode cX0_heatsTelling 2 = .ok (.iconst 0, 1) := by decide +kernel
theorem dX0_heatsTelling_3 : decode cX0_heatsTelling 3 = .ok (.istore 4, 2) := by decide +kernel
theorem dX0_heatsTelling_5 : decode cX0_heatsTelling 5 = .ok (.iload 4, 2) := by decide +kernel
theorem dX0_heatsTelling_7 : decode cX0_heatsTelling 7 = .ok (.bipush 31, 2) := by decide +kernel
theorem dX0_heatsTelling_9 : decode cX0_heatsTelling 9 = .ok (.if_icmp .ge 31, 3) := by decide +kernel
theorem dX0_heatsTelling_12 : decode cX0_heatsTelling 12 = .ok (.iload_n 3, 1) := by decide +kernel
theorem dX0_heatsTelling_13 : decode cX0_heatsTelling 13 = .ok (.aload_n 0, 1) := by decide +kernel
theorem dX0_heatsTelling_14 : decode cX0_heatsTelling 14 = .ok (.aload_n 1, 1) := by decide +kernel
theorem dX0_heatsTelling_15 : decode cX0_heatsTelling 15 = .ok (.iload 4, 2) := by decide +kernel
theorem dX0_heatsTelling_17 : decode cX0_heatsTelling 17 = .ok (.invokevirtual 116, 3) := by decide +kernel
theorem dX0_heatsTelling_20 : decode cX0_heatsTelling 20 = .ok (.iload_n 2, 1) := by decide +kernel
theorem dX0_heatsTelling_21 : decode cX0_heatsTelling 21 = .ok (.if_icmp .ne 10, 3) := by decide +kernel
theorem dX0_heatsTelling_24 : decode cX0_heatsTelling 24 = .ok (.iconst 1, 1) := by decide +kernel
theorem dX0_heatsTelling_25 : decode cX0_heatsTelling 25 = .ok (.iload 4, 2) := by decide +kernel
theorem dX0_heatsTelling_27 : decode cX0_heatsTelling 27 = .ok (.ishl, 1) := by decide +kernel
theorem dX0_heatsTelling_28 : decode cX0_heatsTelling 28 = .ok (.goto 4, 3) := by decide +kernel
theorem dX0_heatsTelling_31 : decode cX0_heatsTelling 31 = .ok (.iconst 0, 1) := by decide +kernel
theorem dX0_heatsTelling_32 : decode cX0_heatsTelling 32 = .ok (.ior, 1) := by decide +kernel
theorem dX0_heatsTelling_33 : decode cX0_heatsTelling 33 = .ok (.istore_n 3, 1) := by decide +kernel
theorem dX0_heatsTelling_34 : decode cX0_heatsTelling 34 = .ok (.iinc 4 1, 3) := by decide +kernel
theorem dX0_heatsTelling_37 : decode cX0_heatsTelling 37 = .ok (.goto (-32), 3) := by decide +kernel
theorem dX0_heatsTelling_40 : decode cX0_heatsTelling 40 = .ok (.iload_n 3, 1) := by decide +kernel
theorem dX0_heatsTelling_41 : decode cX0_heatsTelling 41 = .ok (.ireturn, 1) := by decide +kernel
theorem dX0_heatsFitting_0 : decode cX0_heatsFitting 0 = .ok (.ldc 165, 2) := by decide +kernel
theorem dX0_heatsFitting_2 : decode cX0_heatsFitting 2 = .ok (.istore_n 2, 1) := by decide +kernel
theorem dX0_heatsFitting_3 : decode cX0_heatsFitting 3 = .ok (.iconst 0, 1) := by decide +kernel
theorem dX0_heatsFitting_4 : decode cX0_heatsFitting 4 = .ok (.istore_n 3, 1) := by decide +kernel
theorem dX0_heatsFitting_5 : decode cX0_heatsFitting 5 = .ok (.iload_n 3, 1) := by decide +kernel
theorem dX0_heatsFitting_6 : decode cX0_heatsFitting 6 = .ok (.iconst 1, 1) := by decide +kernel
theorem dX0_heatsFitting_7 : decode cX0_heatsFitting 7 = .ok (.iadd, 1) := by decide +kernel
theorem dX0_heatsFitting_8 : decode cX0_heatsFitting 8 = .ok (.aload_n 1, 1) := by decide +kernel
theorem dX0_heatsFitting_9 : decode cX0_heatsFitting 9 = .ok (.getfield 155, 3) := by decide +kernel
theorem dX0_heatsFitting_12 : decode cX0_heatsFitting 12 = .ok (.if_icmp .ge 35, 3) := by decide +kernel
theorem dX0_heatsFitting_15 : decode cX0_heatsFitting 15 = .ok (.iload_n 2, 1) := by decide +kernel
theorem dX0_heatsFitting_16 : decode cX0_heatsFitting 16 = .ok (.aload_n 0, 1) := by decide +kernel
theorem dX0_heatsFitting_17 : decode cX0_heatsFitting 17 = .ok (.aload_n 0, 1) := by decide +kernel
theorem dX0_heatsFitting_18 : decode cX0_heatsFitting 18 = .ok (.getfield 11, 3) := by decide +kernel
theorem dX0_heatsFitting_21 : decode cX0_heatsFitting 21 = .ok (.aload_n 1, 1) := by decide +kernel
theorem dX0_heatsFitting_22 : decode cX0_heatsFitting 22 = .ok (.getfield 158, 3) := by decide +kernel
theorem dX0_heatsFitting_25 : decode cX0_heatsFitting 25 = .ok (.iload_n 3, 1) := by decide +kernel
theorem dX0_heatsFitting_26 : decode cX0_heatsFitting 26 = .ok (.iaload, 1) := by decide +kernel
theorem dX0_heatsFitting_27 : decode cX0_heatsFitting 27 = .ok (.aaload, 1) := by decide +kernel
theorem dX0_heatsFitting_28 : decode cX0_heatsFitting 28 = .ok (.aload_n 1, 1) := by decide +kernel
theorem dX0_heatsFitting_29 : decode cX0_heatsFitting 29 = .ok (.getfield 158, 3) := by decide +kernel
theorem dX0_heatsFitting_32 : decode cX0_heatsFitting 32 = .ok (.iload_n 3, 1) := by decide +kernel
theorem dX0_heatsFitting_33 : decode cX0_heatsFitting 33 = .ok (.iconst 1, 1) := by decide +kernel
theorem dX0_heatsFitting_34 : decode cX0_heatsFitting 34 = .ok (.iadd, 1) := by decide +kernel
theorem dX0_heatsFitting_35 : decode cX0_heatsFitting 35 = .ok (.iaload, 1) := by decide +kernel
theorem dX0_heatsFitting_36 : decode cX0_heatsFitting 36 = .ok (.invokevirtual 166, 3) := by decide +kernel
theorem dX0_heatsFitting_39 : decode cX0_heatsFitting 39 = .ok (.iand, 1) := by decide +kernel
theorem dX0_heatsFitting_40 : decode cX0_heatsFitting 40 = .ok (.istore_n 2, 1) := by decide +kernel
theorem dX0_heatsFitting_41 : decode cX0_heatsFitting 41 = .ok (.iinc 3 2, 3) := by decide +kernel
theorem dX0_heatsFitting_44 : decode cX0_heatsFitting 44 = .ok (.goto (-39), 3) := by decide +kernel
theorem dX0_heatsFitting_47 : decode cX0_heatsFitting 47 = .ok (.iload_n 2, 1) := by decide +kernel
theorem dX0_heatsFitting_48 : decode cX0_heatsFitting 48 = .ok (.ireturn, 1) := by decide +kernel
theorem dX0_greatestPart_0 : decode cX0_greatestPart 0 = .ok (.iconst 0, 1) := by decide +kernel
theorem dX0_greatestPart_1 : decode cX0_greatestPart 1 = .ok (.istore_n 3, 1) := by decide +kernel
theorem dX0_greatestPart_2 : decode cX0_greatestPart 2 = .ok (.iconst 0, 1) := by decide +kernel
theorem dX0_greatestPart_3 : decode cX0_greatestPart 3 = .ok (.istore 4, 2) := by decide +kernel
theorem dX0_greatestPart_5 : decode cX0_greatestPart 5 = .ok (.iload 4, 2) := by decide +kernel
theorem dX0_greatestPart_7 : decode cX0_greatestPart 7 = .ok (.iconst 3, 1) := by decide +kernel
theorem dX0_greatestPart_8 : decode cX0_greatestPart 8 = .ok (.if_icmp .ge 26, 3) := by decide +kernel
theorem dX0_greatestPart_11 : decode cX0_greatestPart 11 = .ok (.iload_n 3, 1) := by decide +kernel
theorem dX0_greatestPart_12 : decode cX0_greatestPart 12 = .ok (.iload_n 2, 1) := by decide +kernel
theorem dX0_greatestPart_13 : decode cX0_greatestPart 13 = .ok (.aload_n 0, 1) := by decide +kernel
theorem dX0_greatestPart_14 : decode cX0_greatestPart 14 = .ok (.aload_n 1, 1) := by decide +kernel
theorem dX0_greatestPart_15 : decode cX0_greatestPart 15 = .ok (.iload 4, 2) := by decide +kernel
theorem dX0_greatestPart_17 : decode cX0_greatestPart 17 = .ok (.invokevirtual 166, 3) := by decide +kernel
theorem dX0_greatestPart_20 : decode cX0_greatestPart 20 = .ok (.iand, 1) := by decide +kernel
theorem dX0_greatestPart_21 : decode cX0_greatestPart 21 = .ok (.invokestatic 169, 3) := by decide +kernel
theorem dX0_greatestPart_24 : decode cX0_greatestPart 24 = .ok (.invokestatic 138, 3) := by decide +kernel
theorem dX0_greatestPart_27 : decode cX0_greatestPart 27 = .ok (.istore_n 3, 1) := by decide +kernel
theorem dX0_greatestPart_28 : decode cX0_greatestPart 28 = .ok (.iinc 4 1, 3) := by decide +kernel
theorem dX0_greatestPart_31 : decode cX0_greatestPart 31 = .ok (.goto (-26), 3) := by decide +kernel
theorem dX0_greatestPart_34 : decode cX0_greatestPart 34 = .ok (.iload_n 3, 1) := by decide +kernel
theorem dX0_greatestPart_35 : decode cX0_greatestPart 35 = .ok (.ireturn, 1) := by decide +kernel
theorem dX0_absent_0 : decode cX0_absent 0 = .ok (.iconst 0, 1) := by decide +kernel
theorem dX0_absent_1 : decode cX0_absent 1 = .ok (.istore_n 1, 1) := by decide +kernel
theorem dX0_absent_2 : decode cX0_absent 2 = .ok (.iconst 0, 1) := by decide +kernel
theorem dX0_absent_3 : decode cX0_absent 3 = .ok (.istore_n 2, 1) := by decide +kernel
theorem dX0_absent_4 : decode cX0_absent 4 = .ok (.iload_n 2, 1) := by decide +kernel
theorem dX0_absent_5 : decode cX0_absent 5 = .ok (.aload_n 0, 1) := by decide +kernel
theorem dX0_absent_6 : decode cX0_absent 6 = .ok (.getfield 55, 3) := by decide +kernel
theorem dX0_absent_9 : decode cX0_absent 9 = .ok (.if_icmp .ge 33, 3) := by decide +kernel
theorem dX0_absent_12 : decode cX0_absent 12 = .ok (.iload_n 1, 1) := by decide +kernel
theorem dX0_absent_13 : decode cX0_absent 13 = .ok (.aload_n 0, 1) := by decide +kernel
theorem dX0_absent_14 : decode cX0_absent 14 = .ok (.getfield 11, 3) := by decide +kernel
theorem dX0_absent_17 : decode cX0_absent 17 = .ok (.iload_n 2, 1) := by decide +kernel
theorem dX0_absent_18 : decode cX0_absent 18 = .ok (.aaload, 1) := by decide +kernel
theorem dX0_absent_19 : decode cX0_absent 19 = .ok (.aload_n 0, 1) := by decide +kernel
theorem dX0_absent_20 : decode cX0_absent 20 = .ok (.getfield 31, 3) := by decide +kernel
theorem dX0_absent_23 : decode cX0_absent 23 = .ok (.invokevirtual 83, 3) := by decide +kernel
theorem dX0_absent_26 : decode cX0_absent 26 = .ok (.ifCond .eq 7, 3) := by decide +kernel
theorem dX0_absent_29 : decode cX0_absent 29 = .ok (.iconst 0, 1) := by decide +kernel
theorem dX0_absent_30 : decode cX0_absent 30 = .ok (.goto 4, 3) := by decide +kernel
theorem dX0_absent_33 : decode cX0_absent 33 = .ok (.iconst 1, 1) := by decide +kernel
theorem dX0_absent_34 : decode cX0_absent 34 = .ok (.iadd, 1) := by decide +kernel
theorem dX0_absent_35 : decode cX0_absent 35 = .ok (.istore_n 1, 1) := by decide +kernel
theorem dX0_absent_36 : decode cX0_absent 36 = .ok (.iinc 2 1, 3) := by decide +kernel
theorem dX0_absent_39 : decode cX0_absent 39 = .ok (.goto (-35), 3) := by decide +kernel
theorem dX0_absent_42 : decode cX0_absent 42 = .ok (.iload_n 1, 1) := by decide +kernel
theorem dX0_absent_43 : decode cX0_absent 43 = .ok (.ireturn, 1) := by decide +kernel
theorem dX0_triedOnes_0 : decode cX0_triedOnes 0 = .ok (.iconst 0, 1) := by decide +kernel
theorem dX0_triedOnes_1 : decode cX0_triedOnes 1 = .ok (.istore_n 1, 1) := by decide +kernel
theorem dX0_triedOnes_2 : decode cX0_triedOnes 2 = .ok (.iconst 0, 1) := by decide +kernel
theorem dX0_triedOnes_3 : decode cX0_triedOnes 3 = .ok (.istore_n 2, 1) := by decide +kernel
theorem dX0_triedOnes_4 : decode cX0_triedOnes 4 = .ok (.iload_n 2, 1) := by decide +kernel
theorem dX0_triedOnes_5 : decode cX0_triedOnes 5 = .ok (.aload_n 0, 1) := by decide +kernel
theorem dX0_triedOnes_6 : decode cX0_triedOnes 6 = .ok (.getfield 55, 3) := by decide +kernel
theorem dX0_triedOnes_9 : decode cX0_triedOnes 9 = .ok (.if_icmp .ge 31, 3) := by decide +kernel
theorem dX0_triedOnes_12 : decode cX0_triedOnes 12 = .ok (.iload_n 1, 1) := by decide +kernel
theorem dX0_triedOnes_13 : decode cX0_triedOnes 13 = .ok (.aload_n 0, 1) := by decide +kernel
theorem dX0_triedOnes_14 : decode cX0_triedOnes 14 = .ok (.getfield 11, 3) := by decide +kernel
theorem dX0_triedOnes_17 : decode cX0_triedOnes 17 = .ok (.iload_n 2, 1) := by decide +kernel
theorem dX0_triedOnes_18 : decode cX0_triedOnes 18 = .ok (.aaload, 1) := by decide +kernel
theorem dX0_triedOnes_19 : decode cX0_triedOnes 19 = .ok (.invokevirtual 144, 3) := by decide +kernel
theorem dX0_triedOnes_22 : decode cX0_triedOnes 22 = .ok (.ifCond .eq 9, 3) := by decide +kernel
theorem dX0_triedOnes_25 : decode cX0_triedOnes 25 = .ok (.iconst 1, 1) := by decide +kernel
theorem dX0_triedOnes_26 : decode cX0_triedOnes 26 = .ok (.iload_n 2, 1) := by decide +kernel
theorem dX0_triedOnes_27 : decode cX0_triedOnes 27 = .ok (.ishl, 1) := by decide +kernel
theorem dX0_triedOnes_28 : decode cX0_triedOnes 28 = .ok (.goto 4, 3) := by decide +kernel
theorem dX0_triedOnes_31 : decode cX0_triedOnes 31 = .ok (.iconst 0, 1) := by decide +kernel
theorem dX0_triedOnes_32 : decode cX0_triedOnes 32 = .ok (.ior, 1) := by decide +kernel
theorem dX0_triedOnes_33 : decode cX0_triedOnes 33 = .ok (.istore_n 1, 1) := by decide +kernel
theorem dX0_triedOnes_34 : decode cX0_triedOnes 34 = .ok (.iinc 2 1, 3) := by decide +kernel
theorem dX0_triedOnes_37 : decode cX0_triedOnes 37 = .ok (.goto (-33), 3) := by decide +kernel
theorem dX0_triedOnes_40 : decode cX0_triedOnes 40 = .ok (.iload_n 1, 1) := by decide +kernel
theorem dX0_triedOnes_41 : decode cX0_triedOnes 41 = .ok (.ireturn, 1) := by decide +kernel
theorem dX0_toldClean_0 : decode cX0_toldClean 0 = .ok (.iconst 0, 1) := by decide +kernel
theorem dX0_toldClean_1 : decode cX0_toldClean 1 = .ok (.istore_n 1, 1) := by decide +kernel
theorem dX0_toldClean_2 : decode cX0_toldClean 2 = .ok (.iconst 0, 1) := by decide +kernel
theorem dX0_toldClean_3 : decode cX0_toldClean 3 = .ok (.istore_n 2, 1) := by decide +kernel
theorem dX0_toldClean_4 : decode cX0_toldClean 4 = .ok (.iload_n 2, 1) := by decide +kernel
theorem dX0_toldClean_5 : decode cX0_toldClean 5 = .ok (.aload_n 0, 1) := by decide +kernel
theorem dX0_toldClean_6 : decode cX0_toldClean 6 = .ok (.getfield 55, 3) := by decide +kernel
theorem dX0_toldClean_9 : decode cX0_toldClean 9 = .ok (.if_icmp .ge 30, 3) := by decide +kernel
theorem dX0_toldClean_12 : decode cX0_toldClean 12 = .ok (.iload_n 1, 1) := by decide +kernel
theorem dX0_toldClean_13 : decode cX0_toldClean 13 = .ok (.aload_n 0, 1) := by decide +kernel
theorem dX0_toldClean_14 : decode cX0_toldClean 14 = .ok (.getfield 11, 3) := by decide +kernel
theorem dX0_toldClean_17 : decode cX0_toldClean 17 = .ok (.iload_n 2, 1) := by decide +kernel
theorem dX0_toldClean_18 : decode cX0_toldClean 18 = .ok (.aaload, 1) := by decide +kernel
theorem dX0_toldClean_19 : decode cX0_toldClean 19 = .ok (.getfield 93, 3) := by decide +kernel
theorem dX0_toldClean_22 : decode cX0_toldClean 22 = .ok (.iconst 1, 1) := by decide +kernel
theorem dX0_toldClean_23 : decode cX0_toldClean 23 = .ok (.if_icmp .ne 7, 3) := by decide +kernel
theorem dX0_toldClean_26 : decode cX0_toldClean 26 = .ok (.iconst 1, 1) := by decide +kernel
theorem dX0_toldClean_27 : decode cX0_toldClean 27 = .ok (.goto 4, 3) := by decide +kernel
theorem dX0_toldClean_30 : decode cX0_toldClean 30 = .ok (.iconst 0, 1) := by decide +kernel
theorem dX0_toldClean_31 : decode cX0_toldClean 31 = .ok (.iadd, 1) := by decide +kernel
theorem dX0_toldClean_32 : decode cX0_toldClean 32 = .ok (.istore_n 1, 1) := by decide +kernel
theorem dX0_toldClean_33 : decode cX0_toldClean 33 = .ok (.iinc 2 1, 3) := by decide +kernel
theorem dX0_toldClean_36 : decode cX0_toldClean 36 = .ok (.goto (-32), 3) := by decide +kernel
theorem dX0_toldClean_39 : decode cX0_toldClean 39 = .ok (.iload_n 1, 1) := by decide +kernel
theorem dX0_toldClean_40 : decode cX0_toldClean 40 = .ok (.ireturn, 1) := by decide +kernel
theorem dX0_toldWrongly_0 : decode cX0_toldWrongly 0 = .ok (.iconst 0, 1) := by decide +kernel
theorem dX0_toldWrongly_1 : decode cX0_toldWrongly 1 = .ok (.istore_n 1, 1) := by decide +kernel
theorem dX0_toldWrongly_2 : decode cX0_toldWrongly 2 = .ok (.iconst 0, 1) := by decide +kernel
theorem dX0_toldWrongly_3 : decode cX0_toldWrongly 3 = .ok (.istore_n 2, 1) := by decide +kernel
theorem dX0_toldWrongly_4 : decode cX0_toldWrongly 4 = .ok (.iload_n 2, 1) := by decide +kernel
theorem dX0_toldWrongly_5 : decode cX0_toldWrongly 5 = .ok (.aload_n 0, 1) := by decide +kernel
theorem dX0_toldWrongly_6 : decode cX0_toldWrongly 6 = .ok (.getfield 55, 3) := by decide +kernel
theorem dX0_toldWrongly_9 : decode cX0_toldWrongly 9 = .ok (.if_icmp .ge 29, 3) := by decide +kernel
theorem dX0_toldWrongly_12 : decode cX0_toldWrongly 12 = .ok (.iload_n 1, 1) := by decide +kernel
theorem dX0_toldWrongly_13 : decode cX0_toldWrongly 13 = .ok (.aload_n 0, 1) := by decide +kernel
theorem dX0_toldWrongly_14 : decode cX0_toldWrongly 14 = .ok (.getfield 11, 3) := by decide +kernel
theorem dX0_toldWrongly_17 : decode cX0_toldWrongly 17 = .ok (.iload_n 2, 1) := by decide +kernel
theorem dX0_toldWrongly_18 : decode cX0_toldWrongly 18 = .ok (.aaload, 1) := by decide +kernel
theorem dX0_toldWrongly_19 : decode cX0_toldWrongly 19 = .ok (.getfield 121, 3) := by decide +kernel
theorem dX0_toldWrongly_22 : decode cX0_toldWrongly 22 = .ok (.ifCond .eq 7, 3) := by decide +kernel
theorem dX0_toldWrongly_25 : decode cX0_toldWrongly 25 = .ok (.iconst 1, 1) := by decide +kernel
theorem dX0_toldWrongly_26 : decode cX0_toldWrongly 26 = .ok (.goto 4, 3) := by decide +kernel
theorem dX0_toldWrongly_29 : decode cX0_toldWrongly 29 = .ok (.iconst 0, 1) := by decide +kernel
theorem dX0_toldWrongly_30 : decode cX0_toldWrongly 30 = .ok (.iadd, 1) := by decide +kernel
theorem dX0_toldWrongly_31 : decode cX0_toldWrongly 31 = .ok (.istore_n 1, 1) := by decide +kernel
theorem dX0_toldWrongly_32 : decode cX0_toldWrongly 32 = .ok (.iinc 2 1, 3) := by decide +kernel
theorem dX0_toldWrongly_35 : decode cX0_toldWrongly 35 = .ok (.goto (-31), 3) := by decide +kernel
theorem dX0_toldWrongly_38 : decode cX0_toldWrongly 38 = .ok (.iload_n 1, 1) := by decide +kernel
theorem dX0_toldWrongly_39 : decode cX0_toldWrongly 39 = .ok (.ireturn, 1) := by decide +kernel
theorem dX0_allSalve_0 : decode cX0_allSalve 0 = .ok (.iconst 0, 1) := by decide +kernel
theorem dX0_allSalve_1 : decode cX0_allSalve 1 = .ok (.istore_n 1, 1) := by decide +kernel
theorem dX0_allSalve_2 : decode cX0_allSalve 2 = .ok (.iconst 0, 1) := by decide +kernel
theorem dX0_allSalve_3 : decode cX0_allSalve 3 = .ok (.istore_n 2, 1) := by decide +kernel
theorem dX0_allSalve_4 : decode cX0_allSalve 4 = .ok (.iload_n 2, 1) := by decide +kernel
theorem dX0_allSalve_5 : decode cX0_allSalve 5 = .ok (.aload_n 0, 1) := by decide +kernel
theorem dX0_allSalve_6 : decode cX0_allSalve 6 = .ok (.getfield 55, 3) := by decide +kernel
theorem dX0_allSalve_9 : decode cX0_allSalve 9 = .ok (.if_icmp .ge 21, 3) := by decide +kernel
theorem dX0_allSalve_12 : decode cX0_allSalve 12 = .ok (.iload_n 1, 1) := by decide +kernel
theorem dX0_allSalve_13 : decode cX0_allSalve 13 = .ok (.aload_n 0, 1) := by decide +kernel
theorem dX0_allSalve_14 : decode cX0_allSalve 14 = .ok (.getfield 11, 3) := by decide +kernel
theorem dX0_allSalve_17 : decode cX0_allSalve 17 = .ok (.iload_n 2, 1) := by decide +kernel
theorem dX0_allSalve_18 : decode cX0_allSalve 18 = .ok (.aaload, 1) := by decide +kernel
theorem dX0_allSalve_19 : decode cX0_allSalve 19 = .ok (.getfield 90, 3) := by decide +kernel
theorem dX0_allSalve_22 : decode cX0_allSalve 22 = .ok (.iadd, 1) := by decide +kernel
theorem dX0_allSalve_23 : decode cX0_allSalve 23 = .ok (.istore_n 1, 1) := by decide +kernel
theorem dX0_allSalve_24 : decode cX0_allSalve 24 = .ok (.iinc 2 1, 3) := by decide +kernel
theorem dX0_allSalve_27 : decode cX0_allSalve 27 = .ok (.goto (-23), 3) := by decide +kernel
theorem dX0_allSalve_30 : decode cX0_allSalve 30 = .ok (.iload_n 1, 1) := by decide +kernel
theorem dX0_allSalve_31 : decode cX0_allSalve 31 = .ok (.ireturn, 1) := by decide +kernel
theorem dX0_ploughmen_0 : decode cX0_ploughmen 0 = .ok (.iconst 0, 1) := by decide +kernel
theorem dX0_ploughmen_1 : decode cX0_ploughmen 1 = .ok (.istore_n 1, 1) := by decide +kernel
theorem dX0_ploughmen_2 : decode cX0_ploughmen 2 = .ok (.iconst 0, 1) := by decide +kernel
theorem dX0_ploughmen_3 : decode cX0_ploughmen 3 = .ok (.istore_n 2, 1) := by decide +kernel
theorem dX0_ploughmen_4 : decode cX0_ploughmen 4 = .ok (.iload_n 2, 1) := by decide +kernel
theorem dX0_ploughmen_5 : decode cX0_ploughmen 5 = .ok (.aload_n 0, 1) := by decide +kernel
theorem dX0_ploughmen_6 : decode cX0_ploughmen 6 = .ok (.getfield 55, 3) := by decide +kernel
theorem dX0_ploughmen_9 : decode cX0_ploughmen 9 = .ok (.if_icmp .ge 30, 3) := by decide +kernel
theorem dX0_ploughmen_12 : decode cX0_ploughmen 12 = .ok (.iload_n 1, 1) := by decide +kernel
theorem dX0_ploughmen_13 : decode cX0_ploughmen 13 = .ok (.aload_n 0, 1) := by decide +kernel
theorem dX0_ploughmen_14 : decode cX0_ploughmen 14 = .ok (.getfield 11, 3) := by decide +kernel
theorem dX0_ploughmen_17 : decode cX0_ploughmen 17 = .ok (.iload_n 2, 1) := by decide +kernel
theorem dX0_ploughmen_18 : decode cX0_ploughmen 18 = .ok (.aaload, 1) := by decide +kernel
theorem dX0_ploughmen_19 : decode cX0_ploughmen 19 = .ok (.iconst 1, 1) := by decide +kernel
theorem dX0_ploughmen_20 : decode cX0_ploughmen 20 = .ok (.invokevirtual 174, 3) := by decide +kernel
theorem dX0_ploughmen_23 : decode cX0_ploughmen 23 = .ok (.ifCond .eq 7, 3) := by decide +kernel
theorem dX0_ploughmen_26 : decode cX0_ploughmen 26 = .ok (.iconst 1, 1) := by decide +kernel
theorem dX0_ploughmen_27 : decode cX0_ploughmen 27 = .ok (.goto 4, 3) := by decide +kernel
theorem dX0_ploughmen_30 : decode cX0_ploughmen 30 = .ok (.iconst 0, 1) := by decide +kernel
theorem dX0_ploughmen_31 : decode cX0_ploughmen 31 = .ok (.iadd, 1) := by decide +kernel
theorem dX0_ploughmen_32 : decode cX0_ploughmen 32 = .ok (.istore_n 1, 1) := by decide +kernel
theorem dX0_ploughmen_33 : decode cX0_ploughmen 33 = .ok (.iinc 2 1, 3) := by decide +kernel
theorem dX0_ploughmen_36 : decode cX0_ploughmen 36 = .ok (.goto (-32), 3) := by decide +kernel
theorem dX0_ploughmen_39 : decode cX0_ploughmen 39 = .ok (.iload_n 1, 1) := by decide +kernel
theorem dX0_ploughmen_40 : decode cX0_ploughmen 40 = .ok (.ireturn, 1) := by decide +kernel
theorem dX1_init_0 : decode cX1_init 0 = .ok (.aload_n 0, 1) := by decide +kernel
theorem dX1_init_1 : decode cX1_init 1 = .ok (.invokespecial 3, 3) := by decide +kernel
theorem dX1_init_4 : decode cX1_init 4 = .ok (.aload_n 0, 1) := by decide +kernel
theorem dX1_init_5 : decode cX1_init 5 = .ok (.bipush 40, 2) := by decide +kernel
theorem dX1_init_7 : decode cX1_init 7 = .ok (.newarray .int, 2) := by decide +kernel
theorem dX1_init_9 : decode cX1_init 9 = .ok (.putfield 9, 3) := by decide +kernel
theorem dX1_init_12 : decode cX1_init 12 = .ok (.aload_n 0, 1) := by decide +kernel
theorem dX1_init_13 : decode cX1_init 13 = .ok (.bipush 40, 2) := by decide +kernel
theorem dX1_init_15 : decode cX1_init 15 = .ok (.newarray .int, 2) := by decide +kernel
theorem dX1_init_17 : decode cX1_init 17 = .ok (.putfield 15, 3) := by decide +kernel
theorem dX1_init_20 : decode cX1_init 20 = .ok (.aload_n 0, 1) := by decide +kernel
theorem dX1_init_21 : decode cX1_init 21 = .ok (.iload_n 1, 1) := by decide +kernel
theorem dX1_init_22 : decode cX1_init 22 = .ok (.putfield 18, 3) := by decide +kernel
theorem dX1_init_25 : decode cX1_init 25 = .ok (.return_, 1) := by decide +kernel
theorem dX1_hasRoomFor_0 : decode cX1_hasRoomFor 0 = .ok (.aload_n 0, 1) := by decide +kernel
theorem dX1_hasRoomFor_1 : decode cX1_hasRoomFor 1 = .ok (.getfield 18, 3) := by decide +kernel
theorem dX1_hasRoomFor_4 : decode cX1_hasRoomFor 4 = .ok (.bipush 40, 2) := by decide +kernel
theorem dX1_hasRoomFor_6 : decode cX1_hasRoomFor 6 = .ok (.iload_n 1, 1) := by decide +kernel
theorem dX1_hasRoomFor_7 : decode cX1_hasRoomFor 7 = .ok (.isub, 1) := by decide +kernel
theorem dX1_hasRoomFor_8 : decode cX1_hasRoomFor 8 = .ok (.if_icmp .gt 7, 3) := by decide +kernel
theorem dX1_hasRoomFor_11 : decode cX1_hasRoomFor 11 = .ok (.iconst 1, 1) := by decide +kernel
theorem dX1_hasRoomFor_12 : decode cX1_hasRoomFor 12 = .ok (.goto 4, 3) := by decide +kernel
theorem dX1_hasRoomFor_15 : decode cX1_hasRoomFor 15 = .ok (.iconst 0, 1) := by decide +kernel
theorem dX1_hasRoomFor_16 : decode cX1_hasRoomFor 16 = .ok (.ireturn, 1) := by decide +kernel
theorem dX1_add_0 : decode cX1_add 0 = .ok (.aload_n 0, 1) := by decide +kernel
theorem dX1_add_1 : decode cX1_add 1 = .ok (.iconst 1, 1) := by decide +kernel
theorem dX1_add_2 : decode cX1_add 2 = .ok (.invokevirtual 22, 3) := by decide +kernel
theorem dX1_add_5 : decode cX1_add 5 = .ok (.ifCond .eq 33, 3) := by decide +kernel
theorem dX1_add_8 : decode cX1_add 8 = .ok (.aload_n 0, 1) := by decide +kernel
theorem dX1_add_9 : decode cX1_add 9 = .ok (.getfield 9, 3) := by decide +kernel
theorem dX1_add_12 : decode cX1_add 12 = .ok (.aload_n 0, 1) := by decide +kernel
theorem dX1_add_13 : decode cX1_add 13 = .ok (.getfield 18, 3) := by decide +kernel
theorem dX1_add_16 : decode cX1_add 16 = .ok (.iload_n 1, 1) := by decide +kernel
theorem dX1_add_17 : decode cX1_add 17 = .ok (.iastore, 1) := by decide +kernel
theorem dX1_add_18 : decode cX1_add 18 = .ok (.aload_n 0, 1) := by decide +kernel
theorem dX1_add_19 : decode cX1_add 19 = .ok (.getfield 15, 3) := by decide +kernel
theorem dX1_add_22 : decode cX1_add 22 = .ok (.aload_n 0, 1) := by decide +kernel
theorem dX1_add_23 : decode cX1_add 23 = .ok (.getfield 18, 3) := by decide +kernel
theorem dX1_add_26 : decode cX1_add 26 = .ok (.iload_n 2, 1) := by decide +kernel
theorem dX1_add_27 : decode cX1_add 27 = .ok (.iastore, 1) := by decide +kernel
theorem dX1_add_28 : decode cX1_add 28 = .ok (.aload_n 0, 1) := by decide +kernel
theorem dX1_add_29 : decode cX1_add 29 = .ok (.dup, 1) := by decide +kernel
theorem dX1_add_30 : decode cX1_add 30 = .ok (.getfield 18, 3) := by decide +kernel
theorem dX1_add_33 : decode cX1_add 33 = .ok (.iconst 1, 1) := by decide +kernel
theorem dX1_add_34 : decode cX1_add 34 = .ok (.iadd, 1) := by decide +kernel
theorem dX1_add_35 : decode cX1_add 35 = .ok (.putfield 18, 3) := by decide +kernel
theorem dX1_add_38 : decode cX1_add 38 = .ok (.return_, 1) := by decide +kernel
theorem dX1_become_0 : decode cX1_become 0 = .ok (.iconst 0, 1) := by decide +kernel
theorem dX1_become_1 : decode cX1_become 1 = .ok (.istore_n 2, 1) := by decide +kernel
theorem dX1_become_2 : decode cX1_become 2 = .ok (.iload_n 2, 1) := by decide +kernel
theorem dX1_become_3 : decode cX1_become 3 = .ok (.aload_n 1, 1) := by decide +kernel
theorem dX1_become_4 : decode cX1_become 4 = .ok (.getfield 18, 3) := by decide +kernel
theorem dX1_become_7 : decode cX1_become 7 = .ok (.if_icmp .ge 33, 3) := by decide +kernel
theorem dX1_become_10 : decode cX1_become 10 = .ok (.aload_n 0, 1) := by decide +kernel
theorem dX1_become_11 : decode cX1_become 11 = .ok (.getfield 9, 3) := by decide +kernel
theorem dX1_become_14 : decode cX1_become 14 = .ok (.iload_n 2, 1) := by decide +kernel
theorem dX1_become_15 : decode cX1_become 15 = .ok (.aload_n 1, 1) := by decide +kernel
theorem dX1_become_16 : decode cX1_become 16 = .ok (.getfield 9, 3) := by decide +kernel
theorem dX1_become_19 : decode cX1_become 19 = .ok (.iload_n 2, 1) := by decide +kernel
theorem dX1_become_20 : decode cX1_become 20 = .ok (.iaload, 1) := by decide +kernel
theorem dX1_become_21 : decode cX1_become 21 = .ok (.iastore, 1) := by decide +kernel
theorem dX1_become_22 : decode cX1_become 22 = .ok (.aload_n 0, 1) := by decide +kernel
theorem dX1_become_23 : decode cX1_become 23 = .ok (.getfield 15, 3) := by decide +kernel
theorem dX1_become_26 : decode cX1_become 26 = .ok (.iload_n 2, 1) := by decide +kernel
theorem dX1_become_27 : decode cX1_become 27 = .ok (.aload_n 1, 1) := by decide +kernel
theorem dX1_become_28 : decode cX1_become 28 = .ok (.getfield 15, 3) := by decide +kernel
theorem dX1_become_31 : decode cX1_become 31 = .ok (.iload_n 2, 1) := by decide +kernel
theorem dX1_become_32 : decode cX1_become 32 = .ok (.iaload, 1) := by decide +kernel
theorem dX1_become_33 : decode cX1_become 33 = .ok (.iastore, 1) := by decide +kernel
theorem dX1_become_34 : decode cX1_become 34 = .ok (.iinc 2 1, 3) := by decide +kernel
theorem dX1_become_37 : decode cX1_become 37 = .ok (.goto (-35), 3) := by decide +kernel
theorem dX1_become_40 : decode cX1_become 40 = .ok (.aload_n 0, 1) := by decide +kernel
theorem dX1_become_41 : decode cX1_become 41 = .ok (.aload_n 1, 1) := by decide +kernel
theorem dX1_become_42 : decode cX1_become 42 = .ok (.getfield 18, 3) := by decide +kernel
theorem dX1_become_45 : decode cX1_become 45 = .ok (.putfield 18, 3) := by decide +kernel
theorem dX1_become_48 : decode cX1_become 48 = .ok (.return_, 1) := by decide +kernel
theorem dX2_init_0 : decode cX2_init 0 = .ok (.aload_n 0, 1) := by decide +kernel
theorem dX2_init_1 : decode cX2_init 1 = .ok (.invokespecial 3, 3) := by decide +kernel
theorem dX2_init_4 : decode cX2_init 4 = .ok (.aload_n 0, 1) := by decide +kernel
theorem dX2_init_5 : decode cX2_init 5 = .ok (.bipush 31, 2) := by decide +kernel
theorem dX2_init_7 : decode cX2_init 7 = .ok (.newarray .int, 2) := by decide +kernel
theorem dX2_init_9 : decode cX2_init 9 = .ok (.putfield 9, 3) := by decide +kernel
theorem dX2_init_12 : decode cX2_init 12 = .ok (.aload_n 0, 1) := by decide +kernel
theorem dX2_init_13 : decode cX2_init 13 = .ok (.bipush 31, 2) := by decide +kernel
theorem dX2_init_15 : decode cX2_init 15 = .ok (.newarray .int, 2) := by decide +kernel
theorem dX2_init_17 : decode cX2_init 17 = .ok (.putfield 15, 3) := by decide +kernel
theorem dX2_init_20 : decode cX2_init 20 = .ok (.return_, 1) := by decide +kernel
theorem dX2_foulAtLast_0 : decode cX2_foulAtLast 0 = .ok (.iconst 0, 1) := by decide +kernel
theorem dX2_foulAtLast_1 : decode cX2_foulAtLast 1 = .ok (.istore_n 3, 1) := by decide +kernel
theorem dX2_foulAtLast_2 : decode cX2_foulAtLast 2 = .ok (.iload_n 3, 1) := by decide +kernel
theorem dX2_foulAtLast_3 : decode cX2_foulAtLast 3 = .ok (.bipush 31, 2) := by decide +kernel
theorem dX2_foulAtLast_5 : decode cX2_foulAtLast 5 = .ok (.if_icmp .ge 20, 3) := by decide +kernel
theorem dX2_foulAtLast_8 : decode cX2_foulAtLast 8 = .ok (.aload_n 0, 1) := by decide +kernel
theorem dX2_foulAtLast_9 : decode cX2_foulAtLast 9 = .ok (.getfield 9, 3) := by decide +kernel
theorem dX2_foulAtLast_12 : decode cX2_foulAtLast 12 = .ok (.iload_n 3, 1) := by decide +kernel
theorem dX2_foulAtLast_13 : decode cX2_foulAtLast 13 = .ok (.aload_n 1, 1) := by decide +kernel
theorem dX2_foulAtLast_14 : decode cX2_foulAtLast 14 = .ok (.iload_n 3, 1) := by decide +kernel
theorem dX2_foulAtLast_15 : decode cX2_foulAtLast 15 = .ok (.invokevirtual 18, 3) := by decide +kernel
theorem dX2_foulAtLast_18 : decode cX2_foulAtLast 18 = .ok (.iastore, 1) := by decide +kernel
theorem dX2_foulAtLast_19 : decode cX2_foulAtLast 19 = .ok (.iinc 3 1, 3) := by decide +kernel
theorem dX2_foulAtLast_22 : decode cX2_foulAtLast 22 = .ok (.goto (-20), 3) := by decide +kernel
theorem dX2_foulAtLast_25 : decode cX2_foulAtLast 25 = .ok (.iload_n 2, 1) := by decide +kernel
theorem dX2_foulAtLast_26 : decode cX2_foulAtLast 26 = .ok (.iconst 1, 1) := by decide +kernel
theorem dX2_foulAtLast_27 : decode cX2_foulAtLast 27 = .ok (.isub, 1) := by decide +kernel
theorem dX2_foulAtLast_28 : decode cX2_foulAtLast 28 = .ok (.istore_n 3, 1) := by decide +kernel
theorem dX2_foulAtLast_29 : decode cX2_foulAtLast 29 = .ok (.iload_n 3, 1) := by decide +kernel
theorem dX2_foulAtLast_30 : decode cX2_foulAtLast 30 = .ok (.ifCond .lt 69, 3) := by decide +kernel
theorem dX2_foulAtLast_33 : decode cX2_foulAtLast 33 = .ok (.iconst 0, 1) := by decide +kernel
theorem dX2_foulAtLast_34 : decode cX2_foulAtLast 34 = .ok (.istore 4, 2) := by decide +kernel
theorem dX2_foulAtLast_36 : decode cX2_foulAtLast 36 = .ok (.iload 4, 2) := by decide +kernel
theorem dX2_foulAtLast_38 : decode cX2_foulAtLast 38 = .ok (.bipush 31, 2) := by decide +kernel
theorem dX2_foulAtLast_40 : decode cX2_foulAtLast 40 = .ok (.if_icmp .ge 33, 3) := by decide +kernel
theorem dX2_foulAtLast_43 : decode cX2_foulAtLast 43 = .ok (.aload_n 0, 1) := by decide +kernel
theorem dX2_foulAtLast_44 : decode cX2_foulAtLast 44 = .ok (.getfield 15, 3) := by decide +kernel
theorem dX2_foulAtLast_47 : decode cX2_foulAtLast 47 = .ok (.iload 4, 2) := by decide +kernel
theorem dX2_foulAtLast_49 : decode cX2_foulAtLast 49 = .ok (.aload_n 0, 1) := by decide +kernel
theorem dX2_foulAtLast_50 : decode cX2_foulAtLast 50 = .ok (.iload 4, 2) := by decide +kernel
theorem dX2_foulAtLast_52 : decode cX2_foulAtLast 52 = .ok (.iload_n 3, 1) := by decide +kernel
theorem dX2_foulAtLast_53 : decode cX2_foulAtLast 53 = .ok (.iconst 2, 1) := by decide +kernel
theorem dX2_foulAtLast_54 : decode cX2_foulAtLast 54 = .ok (.irem, 1) := by decide +kernel
theorem dX2_foulAtLast_55 : decode cX2_foulAtLast 55 = .ok (.ifCond .ne 7, 3) := by decide +kernel
theorem dX2_foulAtLast_58 : decode cX2_foulAtLast 58 = .ok (.iconst 1, 1) := by decide +kernel
theorem dX2_foulAtLast_59 : decode cX2_foulAtLast 59 = .ok (.goto 4, 3) := by decide +kernel
theorem dX2_foulAtLast_62 : decode cX2_foulAtLast 62 = .ok (.iconst 0, 1) := by decide +kernel
theorem dX2_foulAtLast_63 : decode cX2_foulAtLast 63 = .ok (.invokevirtual 24, 3) := by decide +kernel
theorem dX2_foulAtLast_66 : decode cX2_foulAtLast 66 = .ok (.iastore, 1) := by decide +kernel
theorem dX2_foulAtLast_67 : decode cX2_foulAtLast 67 = .ok (.iinc 4 1, 3) := by decide +kernel
theorem dX2_foulAtLast_70 : decode cX2_foulAtLast 70 = .ok (.goto (-34), 3) := by decide +kernel
theorem dX2_foulAtLast_73 : decode cX2_foulAtLast 73 = .ok (.aload_n 0, 1) := by decide +kernel
theorem dX2_foulAtLast_74 : decode cX2_foulAtLast 74 = .ok (.getfield 9, 3) := by decide +kernel
theorem dX2_foulAtLast_77 : decode cX2_foulAtLast 77 = .ok (.astore 4, 2) := by decide +kernel
theorem dX2_foulAtLast_79 : decode cX2_foulAtLast 79 = .ok (.aload_n 0, 1) := by decide +kernel
theorem dX2_foulAtLast_80 : decode cX2_foulAtLast 80 = .ok (.aload_n 0, 1) := by decide +kernel
theorem dX2_foulAtLast_81 : decode cX2_foulAtLast 81 = .ok (.getfield 15, 3) := by decide +kernel
theorem dX2_foulAtLast_84 : decode cX2_foulAtLast 84 = .ok (.putfield 9, 3) := by decide +kernel
theorem dX2_foulAtLast_87 : decode cX2_foulAtLast 87 = .ok (.aload_n 0, 1) := by decide +kernel
theorem dX2_foulAtLast_88 : decode cX2_foulAtLast 88 = .ok (.aload 4, 2) := by decide +kernel
theorem dX2_foulAtLast_90 : decode cX2_foulAtLast 90 = .ok (.putfield 15, 3) := by decide +kernel
theorem dX2_foulAtLast_93 : decode cX2_foulAtLast 93 = .ok (.iinc 3 (-1), 3) := by decide +kernel
theorem dX2_foulAtLast_96 : decode cX2_foulAtLast 96 = .ok (.goto (-67), 3) := by decide +kernel
theorem dX2_foulAtLast_99 : decode cX2_foulAtLast 99 = .ok (.aload_n 0, 1) := by decide +kernel
theorem dX2_foulAtLast_100 : decode cX2_foulAtLast 100 = .ok (.getfield 9, 3) := by decide +kernel
theorem dX2_foulAtLast_103 : decode cX2_foulAtLast 103 = .ok (.aload_n 1, 1) := by decide +kernel
theorem dX2_foulAtLast_104 : decode cX2_foulAtLast 104 = .ok (.getfield 28, 3) := by decide +kernel
theorem dX2_foulAtLast_107 : decode cX2_foulAtLast 107 = .ok (.iaload, 1) := by decide +kernel
theorem dX2_foulAtLast_108 : decode cX2_foulAtLast 108 = .ok (.ireturn, 1) := by decide +kernel
theorem dX2_chosen_0 : decode cX2_chosen 0 = .ok (.aload_n 0, 1) := by decide +kernel
theorem dX2_chosen_1 : decode cX2_chosen 1 = .ok (.getfield 9, 3) := by decide +kernel
theorem dX2_chosen_4 : decode cX2_chosen 4 = .ok (.iload_n 1, 1) := by decide +kernel
theorem dX2_chosen_5 : decode cX2_chosen 5 = .ok (.iaload, 1) := by decide +kernel
theorem dX2_chosen_6 : decode cX2_chosen 6 = .ok (.istore_n 3, 1) := by decide +kernel
theorem dX2_chosen_7 : decode cX2_chosen 7 = .ok (.bipush (-3), 2) := by decide +kernel
theorem dX2_chosen_9 : decode cX2_chosen 9 = .ok (.istore 4, 2) := by decide +kernel
theorem dX2_chosen_11 : decode cX2_chosen 11 = .ok (.iload 4, 2) := by decide +kernel
theorem dX2_chosen_13 : decode cX2_chosen 13 = .ok (.iconst 3, 1) := by decide +kernel
theorem dX2_chosen_14 : decode cX2_chosen 14 = .ok (.if_icmp .gt 43, 3) := by decide +kernel
theorem dX2_chosen_17 : decode cX2_chosen 17 = .ok (.aload_n 0, 1) := by decide +kernel
theorem dX2_chosen_18 : decode cX2_chosen 18 = .ok (.getfield 9, 3) := by decide +kernel
theorem dX2_chosen_21 : decode cX2_chosen 21 = .ok (.iload_n 1, 1) := by decide +kernel
theorem dX2_chosen_22 : decode cX2_chosen 22 = .ok (.iload 4, 2) := by decide +kernel
theorem dX2_chosen_24 : decode cX2_chosen 24 = .ok (.iadd, 1) := by decide +kernel
theorem dX2_chosen_25 : decode cX2_chosen 25 = .ok (.invokestatic 32, 3) := by decide +kernel
theorem dX2_chosen_28 : decode cX2_chosen 28 = .ok (.iaload, 1) := by decide +kernel
theorem dX2_chosen_29 : decode cX2_chosen 29 = .ok (.istore 5, 2) := by decide +kernel
theorem dX2_chosen_31 : decode cX2_chosen 31 = .ok (.iload_n 2, 1) := by decide +kernel
theorem dX2_chosen_32 : decode cX2_chosen 32 = .ok (.ifCond .eq 12, 3) := by decide +kernel
theorem dX2_chosen_35 : decode cX2_chosen 35 = .ok (.iload_n 3, 1) := by decide +kernel
theorem dX2_chosen_36 : decode cX2_chosen 36 = .ok (.iload 5, 2) := by decide +kernel
theorem dX2_chosen_38 : decode cX2_chosen 38 = .ok (.invokestatic 35, 3) := by decide +kernel
theorem dX2_chosen_41 : decode cX2_chosen 41 = .ok (.goto 9, 3) := by decide +kernel
theorem dX2_chosen_44 : decode cX2_chosen 44 = .ok (.iload_n 3, 1) := by decide +kernel
theorem dX2_chosen_45 : decode cX2_chosen 45 = .ok (.iload 5, 2) := by decide +kernel
theorem dX2_chosen_47 : decode cX2_chosen 47 = .ok (.invokestatic 41, 3) := by decide +kernel
theorem dX2_chosen_50 : decode cX2_chosen 50 = .ok (.istore_n 3, 1) := by decide +kernel
theorem dX2_chosen_51 : decode cX2_chosen 51 = .ok (.iinc 4 1, 3) := by decide +kernel
theorem dX2_chosen_54 : decode cX2_chosen 54 = .ok (.goto (-43), 3) := by decide +kernel
theorem dX2_chosen_57 : decode cX2_chosen 57 = .ok (.iload_n 3, 1) := by decide +kernel
theorem dX2_chosen_58 : decode cX2_chosen 58 = .ok (.ireturn, 1) := by decide +kernel
theorem dX3_init_0 : decode cX3_init 0 = .ok (.aload_n 0, 1) := by decide +kernel
theorem dX3_init_1 : decode cX3_init 1 = .ok (.invokespecial 3, 3) := by decide +kernel
theorem dX3_init_4 : decode cX3_init 4 = .ok (.aload_n 0, 1) := by decide +kernel
theorem dX3_init_5 : decode cX3_init 5 = .ok (.bipush (-9), 2) := by decide +kernel
theorem dX3_init_7 : decode cX3_init 7 = .ok (.putfield 9, 3) := by decide +kernel
theorem dX3_init_10 : decode cX3_init 10 = .ok (.return_, 1) := by decide +kernel
theorem dX3_become_0 : decode cX3_become 0 = .ok (.aload_n 0, 1) := by decide +kernel
theorem dX3_become_1 : decode cX3_become 1 = .ok (.iload_n 1, 1) := by decide +kernel
theorem dX3_become_2 : decode cX3_become 2 = .ok (.putfield 15, 3) := by decide +kernel
theorem dX3_become_5 : decode cX3_become 5 = .ok (.aload_n 0, 1) := by decide +kernel
theorem dX3_become_6 : decode cX3_become 6 = .ok (.iload_n 2, 1) := by decide +kernel
theorem dX3_become_7 : decode cX3_become 7 = .ok (.putfield 18, 3) := by decide +kernel
theorem dX3_become_10 : decode cX3_become 10 = .ok (.aload_n 0, 1) := by decide +kernel
theorem dX3_become_11 : decode cX3_become 11 = .ok (.iload_n 3, 1) := by decide +kernel
theorem dX3_become_12 : decode cX3_become 12 = .ok (.putfield 21, 3) := by decide +kernel
theorem dX3_become_15 : decode cX3_become 15 = .ok (.aload_n 0, 1) := by decide +kernel
theorem dX3_become_16 : decode cX3_become 16 = .ok (.iload 4, 2) := by decide +kernel
theorem dX3_become_18 : decode cX3_become 18 = .ok (.putfield 24, 3) := by decide +kernel
theorem dX3_become_21 : decode cX3_become 21 = .ok (.return_, 1) := by decide +kernel
theorem dX3_forgetDeeds_0 : decode cX3_forgetDeeds 0 = .ok (.aload_n 0, 1) := by decide +kernel
theorem dX3_forgetDeeds_1 : decode cX3_forgetDeeds 1 = .ok (.iconst 0, 1) := by decide +kernel
theorem dX3_forgetDeeds_2 : decode cX3_forgetDeeds 2 = .ok (.putfield 27, 3) := by decide +kernel
theorem dX3_forgetDeeds_5 : decode cX3_forgetDeeds 5 = .ok (.aload_n 0, 1) := by decide +kernel
theorem dX3_forgetDeeds_6 : decode cX3_forgetDeeds 6 = .ok (.bipush (-9), 2) := by decide +kernel
theorem dX3_forgetDeeds_8 : decode cX3_forgetDeeds 8 = .ok (.putfield 9, 3) := by decide +kernel
theorem dX3_forgetDeeds_11 : decode cX3_forgetDeeds 11 = .ok (.aload_n 0, 1) := by decide +kernel
theorem dX3_forgetDeeds_12 : decode cX3_forgetDeeds 12 = .ok (.iconst 0, 1) := by decide +kernel
theorem dX3_forgetDeeds_13 : decode cX3_forgetDeeds 13 = .ok (.putfield 30, 3) := by decide +kernel
theorem dX3_forgetDeeds_16 : decode cX3_forgetDeeds 16 = .ok (.return_, 1) := by decide +kernel
theorem dX3_isTried_0 : decode cX3_isTried 0 = .ok (.aload_n 0, 1) := by decide +kernel
theorem dX3_isTried_1 : decode cX3_isTried 1 = .ok (.getfield 9, 3) := by decide +kernel
theorem dX3_isTried_4 : decode cX3_isTried 4 = .ok (.bipush (-9), 2) := by decide +kernel
theorem dX3_isTried_6 : decode cX3_isTried 6 = .ok (.if_icmp .eq 7, 3) := by decide +kernel
theorem dX3_isTried_9 : decode cX3_isTried 9 = .ok (.iconst 1, 1) := by decide +kernel
theorem dX3_isTried_10 : decode cX3_isTried 10 = .ok (.goto 4, 3) := by decide +kernel
theorem dX3_isTried_13 : decode cX3_isTried 13 = .ok (.iconst 0, 1) := by decide +kernel
theorem dX3_isTried_14 : decode cX3_isTried 14 = .ok (.ireturn, 1) := by decide +kernel
theorem dX3_isOf_0 : decode cX3_isOf 0 = .ok (.aload_n 0, 1) := by decide +kernel
theorem dX3_isOf_1 : decode cX3_isOf 1 = .ok (.getfield 15, 3) := by decide +kernel
theorem dX3_isOf_4 : decode cX3_isOf 4 = .ok (.iload_n 1, 1) := by decide +kernel
theorem dX3_isOf_5 : decode cX3_isOf 5 = .ok (.if_icmp .eq 33, 3) := by decide +kernel
theorem dX3_isOf_8 : decode cX3_isOf 8 = .ok (.iload_n 1, 1) := by decide +kernel
theorem dX3_isOf_9 : decode cX3_isOf 9 = .ok (.ifCond .eq 29, 3) := by decide +kernel
theorem dX3_isOf_12 : decode cX3_isOf 12 = .ok (.iload_n 1, 1) := by decide +kernel
theorem dX3_isOf_13 : decode cX3_isOf 13 = .ok (.iconst 1, 1) := by decide +kernel
theorem dX3_isOf_14 : decode cX3_isOf 14 = .ok (.if_icmp .ne 11, 3) := by decide +kernel
theorem dX3_isOf_17 : decode cX3_isOf 17 = .ok (.aload_n 0, 1) := by decide +kernel
theorem dX3_isOf_18 : decode cX3_isOf 18 = .ok (.getfield 15, 3) := by decide +kernel
theorem dX3_isOf_21 : decode cX3_isOf 21 = .ok (.iconst 4, 1) := by decide +kernel
theorem dX3_isOf_22 : decode cX3_isOf 22 = .ok (.if_icmp .eq 16, 3) := by decide +kernel
theorem dX3_isOf_25 : decode cX3_isOf 25 = .ok (.iload_n 1, 1) := by decide +kernel
theorem dX3_isOf_26 : decode cX3_isOf 26 = .ok (.iconst 2, 1) := by decide +kernel
theorem dX3_isOf_27 : decode cX3_isOf 27 = .ok (.if_icmp .ne 15, 3) := by decide +kernel
theorem dX3_isOf_30 : decode cX3_isOf 30 = .ok (.aload_n 0, 1) := by decide +kernel
theorem dX3_isOf_31 : decode cX3_isOf 31 = .ok (.getfield 15, 3) := by decide +kernel
theorem dX3_isOf_34 : decode cX3_isOf 34 = .ok (.iconst 5, 1) := by decide +kernel
theorem dX3_isOf_35 : decode cX3_isOf 35 = .ok (.if_icmp .ne 7, 3) := by decide +kernel
theorem dX3_isOf_38 : decode cX3_isOf 38 = .ok (.iconst 1, 1) := by decide +kernel
theorem dX3_isOf_39 : decode cX3_isOf 39 = .ok (.goto 4, 3) := by decide +kernel
theorem dX3_isOf_42 : decode cX3_isOf 42 = .ok (.iconst 0, 1) := by decide +kernel
theorem dX3_isOf_43 : decode cX3_isOf 43 = .ok (.ireturn, 1) := by decide +kernel
theorem dX3_hardness_0 : decode cX3_hardness 0 = .ok (.aload_n 0, 1) := by decide +kernel
theorem dX3_hardness_1 : decode cX3_hardness 1 = .ok (.getfield 15, 3) := by decide +kernel
theorem dX3_hardness_4 : decode cX3_hardness 4 = .ok (.tableswitch 57 1 5 #[36, 50, 57, 43, 50], 36) := by decide +kernel
theorem dX3_hardness_40 : decode cX3_hardness 40 = .ok (.aload_n 0, 1) := by decide +kernel
theorem dX3_hardness_41 : decode cX3_hardness 41 = .ok (.getfield 24, 3) := by decide +kernel
theorem dX3_hardness_44 : decode cX3_hardness 44 = .ok (.iconst 3, 1) := by decide +kernel
theorem dX3_hardness_45 : decode cX3_hardness 45 = .ok (.iadd, 1) := by decide +kernel
theorem dX3_hardness_46 : decode cX3_hardness 46 = .ok (.ireturn, 1) := by decide +kernel
theorem dX3_hardness_47 : decode cX3_hardness 47 = .ok (.aload_n 0, 1) := by decide +kernel
theorem dX3_hardness_48 : decode cX3_hardness 48 = .ok (.getfield 24, 3) := by decide +kernel
theorem dX3_hardness_51 : decode cX3_hardness 51 = .ok (.iconst 5, 1) := by decide +kernel
theorem dX3_hardness_52 : decode cX3_hardness 52 = .ok (.iadd, 1) := by decide +kernel
theorem dX3_hardness_53 : decode cX3_hardness 53 = .ok (.ireturn, 1) := by decide +kernel
theorem dX3_hardness_54 : decode cX3_hardness 54 = .ok (.aload_n 0, 1) := by decide +kernel
theorem dX3_hardness_55 : decode cX3_hardness 55 = .ok (.getfield 24, 3) := by decide +kernel
theorem dX3_hardness_58 : decode cX3_hardness 58 = .ok (.iconst 2, 1) := by decide +kernel
theorem dX3_hardness_59 : decode cX3_hardness 59 = .ok (.idiv, 1) := by decide +kernel
theorem dX3_hardness_60 : decode cX3_hardness 60 = .ok (.ireturn, 1) := by decide +kernel
theorem dX3_hardness_61 : decode cX3_hardness 61 = .ok (.aload_n 0, 1) := by decide +kernel
theorem dX3_hardness_62 : decode cX3_hardness 62 = .ok (.getfield 24, 3) := by decide +kernel
theorem dX3_hardness_65 : decode cX3_hardness 65 = .ok (.ireturn, 1) := by decide +kernel
theorem dX3_appears_0 : decode cX3_appears 0 = .ok (.aload_n 0, 1) := by decide +kernel
theorem dX3_appears_1 : decode cX3_appears 1 = .ok (.getfield 15, 3) := by decide +kernel
theorem dX3_appears_4 : decode cX3_appears 4 = .ok (.iconst 4, 1) := by decide +kernel
theorem dX3_appears_5 : decode cX3_appears 5 = .ok (.if_icmp .ne 5, 3) := by decide +kernel
theorem dX3_appears_8 : decode cX3_appears 8 = .ok (.iconst 1, 1) := by decide +kernel
theorem dX3_appears_9 : decode cX3_appears 9 = .ok (.ireturn, 1) := by decide +kernel
theorem dX3_appears_10 : decode cX3_appears 10 = .ok (.aload_n 0, 1) := by decide +kernel
theorem dX3_appears_11 : decode cX3_appears 11 = .ok (.iconst 2, 1) := by decide +kernel
theorem dX3_appears_12 : decode cX3_appears 12 = .ok (.invokevirtual 34, 3) := by decide +kernel
theorem dX3_appears_15 : decode cX3_appears 15 = .ok (.ifCond .eq 9, 3) := by decide +kernel
theorem dX3_appears_18 : decode cX3_appears 18 = .ok (.iload_n 1, 1) := by decide +kernel
theorem dX3_appears_19 : decode cX3_appears 19 = .ok (.bipush 20, 2) := by decide +kernel
theorem dX3_appears_21 : decode cX3_appears 21 = .ok (.if_icmp .gt 17, 3) := by decide +kernel
theorem dX3_appears_24 : decode cX3_appears 24 = .ok (.aload_n 0, 1) := by decide +kernel
theorem dX3_appears_25 : decode cX3_appears 25 = .ok (.iconst 3, 1) := by decide +kernel
theorem dX3_appears_26 : decode cX3_appears 26 = .ok (.invokevirtual 34, 3) := by decide +kernel
theorem dX3_appears_29 : decode cX3_appears 29 = .ok (.ifCond .eq 11, 3) := by decide +kernel
theorem dX3_appears_32 : decode cX3_appears 32 = .ok (.iload_n 1, 1) := by decide +kernel
theorem dX3_appears_33 : decode cX3_appears 33 = .ok (.bipush 10, 2) := by decide +kernel
theorem dX3_appears_35 : decode cX3_appears 35 = .ok (.if_icmp .le 5, 3) := by decide +kernel
theorem dX3_appears_38 : decode cX3_appears 38 = .ok (.iconst 0, 1) := by decide +kernel
theorem dX3_appears_39 : decode cX3_appears 39 = .ok (.ireturn, 1) := by decide +kernel
theorem dX3_appears_40 : decode cX3_appears 40 = .ok (.aload_n 0, 1) := by decide +kernel
theorem dX3_appears_41 : decode cX3_appears 41 = .ok (.getfield 18, 3) := by decide +kernel
theorem dX3_appears_44 : decode cX3_appears 44 = .ok (.ifCond .eq 11, 3) := by decide +kernel
theorem dX3_appears_47 : decode cX3_appears 47 = .ok (.aload_n 0, 1) := by decide +kernel
theorem dX3_appears_48 : decode cX3_appears 48 = .ok (.getfield 21, 3) := by decide +kernel
theorem dX3_appears_51 : decode cX3_appears 51 = .ok (.iconst 3, 1) := by decide +kernel
theorem dX3_appears_52 : decode cX3_appears 52 = .ok (.if_icmp .ge 7, 3) := by decide +kernel
theorem dX3_appears_55 : decode cX3_appears 55 = .ok (.iconst 1, 1) := by decide +kernel
theorem dX3_appears_56 : decode cX3_appears 56 = .ok (.goto 4, 3) := by decide +kernel
theorem dX3_appears_59 : decode cX3_appears 59 = .ok (.iconst 0, 1) := by decide +kernel
theorem dX3_appears_60 : decode cX3_appears 60 = .ok (.ireturn, 1) := by decide +kernel
theorem dX3_wrongedBy_0 : decode cX3_wrongedBy 0 = .ok (.iload_n 1, 1) := by decide +kernel
theorem dX3_wrongedBy_1 : decode cX3_wrongedBy 1 = .ok (.iconst 1, 1) := by decide +kernel
theorem dX3_wrongedBy_2 : decode cX3_wrongedBy 2 = .ok (.if_icmp .ne 7, 3) := by decide +kernel
theorem dX3_wrongedBy_5 : decode cX3_wrongedBy 5 = .ok (.iconst 1, 1) := by decide +kernel
theorem dX3_wrongedBy_6 : decode cX3_wrongedBy 6 = .ok (.goto 4, 3) := by decide +kernel
theorem dX3_wrongedBy_9 : decode cX3_wrongedBy 9 = .ok (.iconst 0, 1) := by decide +kernel
theorem dX3_wrongedBy_10 : decode cX3_wrongedBy 10 = .ok (.aload_n 0, 1) := by decide +kernel
theorem dX3_wrongedBy_11 : decode cX3_wrongedBy 11 = .ok (.getfield 18, 3) := by decide +kernel
theorem dX3_wrongedBy_14 : decode cX3_wrongedBy 14 = .ok (.iconst 1, 1) := by decide +kernel
theorem dX3_wrongedBy_15 : decode cX3_wrongedBy 15 = .ok (.if_icmp .ne 7, 3) := by decide +kernel
theorem dX3_wrongedBy_18 : decode cX3_wrongedBy 18 = .ok (.iconst 1, 1) := by decide +kernel
theorem dX3_wrongedBy_19 : decode cX3_wrongedBy 19 = .ok (.goto 4, 3) := by decide +kernel
theorem dX3_wrongedBy_22 : decode cX3_wrongedBy 22 = .ok (.iconst 0, 1) := by decide +kernel
theorem dX3_wrongedBy_23 : decode cX3_wrongedBy 23 = .ok (.if_icmp .ne 7, 3) := by decide +kernel
theorem dX3_wrongedBy_26 : decode cX3_wrongedBy 26 = .ok (.iconst 1, 1) := by decide +kernel
theorem dX3_wrongedBy_27 : decode cX3_wrongedBy 27 = .ok (.goto 4, 3) := by decide +kernel
theorem dX3_wrongedBy_30 : decode cX3_wrongedBy 30 = .ok (.iconst 0, 1) := by decide +kernel
theorem dX3_wrongedBy_31 : decode cX3_wrongedBy 31 = .ok (.ireturn, 1) := by decide +kernel
theorem dX3_dueByLot_0 : decode cX3_dueByLot 0 = .ok (.aload_n 0, 1) := by decide +kernel
theorem dX3_dueByLot_1 : decode cX3_dueByLot 1 = .ok (.invokevirtual 38, 3) := by decide +kernel
theorem dX3_dueByLot_4 : decode cX3_dueByLot 4 = .ok (.ifCond .ne 5, 3) := by decide +kernel
theorem dX3_dueByLot_7 : decode cX3_dueByLot 7 = .ok (.iconst 2, 1) := by decide +kernel
theorem dX3_dueByLot_8 : decode cX3_dueByLot 8 = .ok (.ireturn, 1) := by decide +kernel
theorem dX3_dueByLot_9 : decode cX3_dueByLot 9 = .ok (.aload_n 0, 1) := by decide +kernel
theorem dX3_dueByLot_10 : decode cX3_dueByLot 10 = .ok (.getfield 27, 3) := by decide +kernel
theorem dX3_dueByLot_13 : decode cX3_dueByLot 13 = .ok (.iconst 3, 1) := by decide +kernel
theorem dX3_dueByLot_14 : decode cX3_dueByLot 14 = .ok (.if_icmp .ge 7, 3) := by decide +kernel
theorem dX3_dueByLot_17 : decode cX3_dueByLot 17 = .ok (.iconst 1, 1) := by decide +kernel
theorem dX3_dueByLot_18 : decode cX3_dueByLot 18 = .ok (.goto 4, 3) := by decide +kernel
theorem dX3_dueByLot_21 : decode cX3_dueByLot 21 = .ok (.iconst 3, 1) := by decide +kernel
theorem dX3_dueByLot_22 : decode cX3_dueByLot 22 = .ok (.ireturn, 1) := by decide +kernel
theorem dX4_init_0 : decode cX4_init 0 = .ok (.aload_n 0, 1) := by decide +kernel
theorem dX4_init_1 : decode cX4_init 1 = .ok (.invokespecial 3, 3) := by decide +kernel
theorem dX4_init_4 : decode cX4_init 4 = .ok (.aload_n 0, 1) := by decide +kernel
theorem dX4_init_5 : decode cX4_init 5 = .ok (.bipush 6, 2) := by decide +kernel
theorem dX4_init_7 : decode cX4_init 7 = .ok (.newarray .int, 2) := by decide +kernel
theorem dX4_init_9 : decode cX4_init 9 = .ok (.putfield 9, 3) := by decide +kernel
theorem dX4_init_12 : decode cX4_init 12 = .ok (.return_, 1) := by decide +kernel
theorem dX4_layBest_0 : decode cX4_layBest 0 = .ok (.iconst 1, 1) := by decide +kernel
theorem dX4_layBest_1 : decode cX4_layBest 1 = .ok (.aload_n 1, 1) := by decide +kernel
theorem dX4_layBest_2 : decode cX4_layBest 2 = .ok (.getfield 15, 3) := by decide +kernel
theorem dX4_layBest_5 : decode cX4_layBest 5 = .ok (.ishl, 1) := by decide +kernel
theorem dX4_layBest_6 : decode cX4_layBest 6 = .ok (.iconst 1, 1) := by decide +kernel
theorem dX4_layBest_7 : decode cX4_layBest 7 = .ok (.isub, 1) := by decide +kernel
theorem dX4_layBest_8 : decode cX4_layBest 8 = .ok (.istore_n 3, 1) := by decide +kernel
theorem dX4_layBest_9 : decode cX4_layBest 9 = .ok (.iload_n 3, 1) := by decide +kernel
theorem dX4_layBest_10 : decode cX4_layBest 10 = .ok (.aload_n 1, 1) := by decide +kernel
theorem dX4_layBest_11 : decode cX4_layBest 11 = .ok (.invokevirtual 21, 3) := by decide +kernel
theorem dX4_layBest_14 : decode cX4_layBest 14 = .ok (.iconst (-1), 1) := by decide +kernel
theorem dX4_layBest_15 : decode cX4_layBest 15 = .ok (.ixor, 1) := by decide +kernel
theorem dX4_layBest_16 : decode cX4_layBest 16 = .ok (.iand, 1) := by decide +kernel
theorem dX4_layBest_17 : decode cX4_layBest 17 = .ok (.istore 4, 2) := by decide +kernel
theorem dX4_layBest_19 : decode cX4_layBest 19 = .ok (.aload_n 2, 1) := by decide +kernel
theorem dX4_layBest_20 : decode cX4_layBest 20 = .ok (.iload 4, 2) := by decide +kernel
theorem dX4_layBest_22 : decode cX4_layBest 22 = .ok (.invokestatic 25, 3) := by decide +kernel
theorem dX4_layBest_25 : decode cX4_layBest 25 = .ok (.iconst 0, 1) := by decide +kernel
theorem dX4_layBest_26 : decode cX4_layBest 26 = .ok (.invokevirtual 31, 3) := by decide +kernel
theorem dX4_layBest_29 : decode cX4_layBest 29 = .ok (.aload_n 0, 1) := by decide +kernel
theorem dX4_layBest_30 : decode cX4_layBest 30 = .ok (.bipush 7, 2) := by decide +kernel
theorem dX4_layBest_32 : decode cX4_layBest 32 = .ok (.putfield 37, 3) := by decide +kernel
theorem dX4_layBest_35 : decode cX4_layBest 35 = .ok (.aload_n 0, 1) := by decide +kernel
theorem dX4_layBest_36 : decode cX4_layBest 36 = .ok (.aload_n 1, 1) := by decide +kernel
theorem dX4_layBest_37 : decode cX4_layBest 37 = .ok (.aload_n 2, 1) := by decide +kernel
theorem dX4_layBest_38 : decode cX4_layBest 38 = .ok (.iload 4, 2) := by decide +kernel
theorem dX4_layBest_40 : decode cX4_layBest 40 = .ok (.iconst 0, 1) := by decide +kernel
theorem dX4_layBest_41 : decode cX4_layBest 41 = .ok (.aload_n 1, 1) := by decide +kernel
theorem dX4_layBest_42 : decode cX4_layBest 42 = .ok (.invokevirtual 40, 3) := by decide +kernel
theorem dX4_layBest_45 : decode cX4_layBest 45 = .ok (.aload_n 1, 1) := by decide +kernel
theorem dX4_layBest_46 : decode cX4_layBest 46 = .ok (.getfield 43, 3) := by decide +kernel
theorem dX4_layBest_49 : decode cX4_layBest 49 = .ok (.invokevirtual 46, 3) := by decide +kernel
theorem dX4_layBest_52 : decode cX4_layBest 52 = .ok (.aload_n 0, 1) := by decide +kernel
theorem dX4_layBest_53 : decode cX4_layBest 53 = .ok (.getfield 37, 3) := by decide +kernel
theorem dX4_layBest_56 : decode cX4_layBest 56 = .ok (.ireturn, 1) := by decide +kernel
theorem dX4_goOn_0 : decode cX4_goOn 0 = .ok (.iload 4, 2) := by decide +kernel
theorem dX4_goOn_2 : decode cX4_goOn 2 = .ok (.aload_n 0, 1) := by decide +kernel
theorem dX4_goOn_3 : decode cX4_goOn 3 = .ok (.getfield 37, 3) := by decide +kernel
theorem dX4_goOn_6 : decode cX4_goOn 6 = .ok (.if_icmp .lt 4, 3) := by decide +kernel
theorem dX4_goOn_9 : decode cX4_goOn 9 = .ok (.return_, 1) := by decide +kernel
theorem dX4_goOn_10 : decode cX4_goOn 10 = .ok (.iload_n 3, 1) := by decide +kernel
theorem dX4_goOn_11 : decode cX4_goOn 11 = .ok (.ifCond .ne 27, 3) := by decide +kernel
theorem dX4_goOn_14 : decode cX4_goOn 14 = .ok (.aload_n 0, 1) := by decide +kernel
theorem dX4_goOn_15 : decode cX4_goOn 15 = .ok (.iload 4, 2) := by decide +kernel
theorem dX4_goOn_17 : decode cX4_goOn 17 = .ok (.putfield 37, 3) := by decide +kernel
theorem dX4_goOn_20 : decode cX4_goOn 20 = .ok (.aload_n 0, 1) := by decide +kernel
theorem dX4_goOn_21 : decode cX4_goOn 21 = .ok (.getfield 9, 3) := by decide +kernel
theorem dX4_goOn_24 : decode cX4_goOn 24 = .ok (.iconst 0, 1) := by decide +kernel
theorem dX4_goOn_25 : decode cX4_goOn 25 = .ok (.aload_n 2, 1) := by decide +kernel
theorem dX4_goOn_26 : decode cX4_goOn 26 = .ok (.getfield 50, 3) := by decide +kernel
theorem dX4_goOn_29 : decode cX4_goOn 29 = .ok (.iconst 0, 1) := by decide +kernel
theorem dX4_goOn_30 : decode cX4_goOn 30 = .ok (.aload_n 2, 1) := by decide +kernel
theorem dX4_goOn_31 : decode cX4_goOn 31 = .ok (.getfield 53, 3) := by decide +kernel
theorem dX4_goOn_34 : decode cX4_goOn 34 = .ok (.invokestatic 54, 3) := by decide +kernel
theorem dX4_goOn_37 : decode cX4_goOn 37 = .ok (.return_, 1) := by decide +kernel
theorem dX4_goOn_38 : decode cX4_goOn 38 = .ok (.aload_n 2, 1) := by decide +kernel
theorem dX4_goOn_39 : decode cX4_goOn 39 = .ok (.getfield 53, 3) := by decide +kernel
theorem dX4_goOn_42 : decode cX4_goOn 42 = .ok (.iload_n 3, 1) := by decide +kernel
theorem dX4_goOn_43 : decode cX4_goOn 43 = .ok (.invokestatic 25, 3) := by decide +kernel
theorem dX4_goOn_46 : decode cX4_goOn 46 = .ok (.isub, 1) := by decide +kernel
theorem dX4_goOn_47 : decode cX4_goOn 47 = .ok (.istore 7, 2) := by decide +kernel
theorem dX4_goOn_49 : decode cX4_goOn 49 = .ok (.iconst 0, 1) := by decide +kernel
theorem dX4_goOn_50 : decode cX4_goOn 50 = .ok (.istore 8, 2) := by decide +kernel
theorem dX4_goOn_52 : decode cX4_goOn 52 = .ok (.iload 8, 2) := by decide +kernel
theorem dX4_goOn_54 : decode cX4_goOn 54 = .ok (.aload_n 1, 1) := by decide +kernel
theorem dX4_goOn_55 : decode cX4_goOn 55 = .ok (.getfield 15, 3) := by decide +kernel
theorem dX4_goOn_58 : decode cX4_goOn 58 = .ok (.if_icmp .ge 112, 3) := by decide +kernel
theorem dX4_goOn_61 : decode cX4_goOn 61 = .ok (.iload_n 3, 1) := by decide +kernel
theorem dX4_goOn_62 : decode cX4_goOn 62 = .ok (.iconst 1, 1) := by decide +kernel
theorem dX4_goOn_63 : decode cX4_goOn 63 = .ok (.iload 8, 2) := by decide +kernel
theorem dX4_goOn_65 : decode cX4_goOn 65 = .ok (.ishl, 1) := by decide +kernel
theorem dX4_goOn_66 : decode cX4_goOn 66 = .ok (.iand, 1) := by decide +kernel
theorem dX4_goOn_67 : decode cX4_goOn 67 = .ok (.ifCond .eq 97, 3) := by decide +kernel
theorem dX4_goOn_70 : decode cX4_goOn 70 = .ok (.aload_n 1, 1) := by decide +kernel
theorem dX4_goOn_71 : decode cX4_goOn 71 = .ok (.getfield 60, 3) := by decide +kernel
theorem dX4_goOn_74 : decode cX4_goOn 74 = .ok (.iload 8, 2) := by decide +kernel
theorem dX4_goOn_76 : decode cX4_goOn 76 = .ok (.aaload, 1) := by decide +kernel
theorem dX4_goOn_77 : decode cX4_goOn 77 = .ok (.astore 9, 2) := by decide +kernel
theorem dX4_goOn_79 : decode cX4_goOn 79 = .ok (.aload_n 1, 1) := by decide +kernel
theorem dX4_goOn_80 : decode cX4_goOn 80 = .ok (.aload 9, 2) := by decide +kernel
theorem dX4_goOn_82 : decode cX4_goOn 82 = .ok (.iload 6, 2) := by decide +kernel
theorem dX4_goOn_84 : decode cX4_goOn 84 = .ok (.invokevirtual 64, 3) := by decide +kernel
theorem dX4_goOn_87 : decode cX4_goOn 87 = .ok (.istore 10, 2) := by decide +kernel
theorem dX4_goOn_89 : decode cX4_goOn 89 = .ok (.aload 9, 2) := by decide +kernel
theorem dX4_goOn_91 : decode cX4_goOn 91 = .ok (.iload 10, 2) := by decide +kernel
theorem dX4_goOn_93 : decode cX4_goOn 93 = .ok (.invokevirtual 68, 3) := by decide +kernel
theorem dX4_goOn_96 : decode cX4_goOn 96 = .ok (.ifCond .eq 10, 3) := by decide +kernel
theorem dX4_goOn_99 : decode cX4_goOn 99 = .ok (.iload 4, 2) := by decide +kernel
theorem dX4_goOn_101 : decode cX4_goOn 101 = .ok (.iconst 1, 1) := by decide +kernel
theorem dX4_goOn_102 : decode cX4_goOn 102 = .ok (.iadd, 1) := by decide +kernel
theorem dX4_goOn_103 : decode cX4_goOn 103 = .ok (.goto 5, 3) := by decide +kernel
theorem dX4_goOn_106 : decode cX4_goOn 106 = .ok (.iload 4, 2) := by decide +kernel
theorem dX4_goOn_108 : decode cX4_goOn 108 = .ok (.istore 11, 2) := by decide +kernel
theorem dX4_goOn_110 : decode cX4_goOn 110 = .ok (.iload 10, 2) := by decide +kernel
theorem dX4_goOn_112 : decode cX4_goOn 112 = .ok (.iconst 1, 1) := by decide +kernel
theorem dX4_goOn_113 : decode cX4_goOn 113 = .ok (.if_icmp .ne 10, 3) := by decide +kernel
theorem dX4_goOn_116 : decode cX4_goOn 116 = .ok (.iload 5, 2) := by decide +kernel
theorem dX4_goOn_118 : decode cX4_goOn 118 = .ok (.iconst 1, 1) := by decide +kernel
theorem dX4_goOn_119 : decode cX4_goOn 119 = .ok (.iadd, 1) := by decide +kernel
theorem dX4_goOn_120 : decode cX4_goOn 120 = .ok (.goto 5, 3) := by decide +kernel
theorem dX4_goOn_123 : decode cX4_goOn 123 = .ok (.iload 5, 2) := by decide +kernel
theorem dX4_goOn_125 : decode cX4_goOn 125 = .ok (.istore 12, 2) := by decide +kernel
theorem dX4_goOn_127 : decode cX4_goOn 127 = .ok (.aload_n 0, 1) := by decide +kernel
theorem dX4_goOn_128 : decode cX4_goOn 128 = .ok (.getfield 9, 3) := by decide +kernel
theorem dX4_goOn_131 : decode cX4_goOn 131 = .ok (.iload 7, 2) := by decide +kernel
theorem dX4_goOn_133 : decode cX4_goOn 133 = .ok (.iload 8, 2) := by decide +kernel
theorem dX4_goOn_135 : decode cX4_goOn 135 = .ok (.iastore, 1) := by decide +kernel
theorem dX4_goOn_136 : decode cX4_goOn 136 = .ok (.aload_n 0, 1) := by decide +kernel
theorem dX4_goOn_137 : decode cX4_goOn 137 = .ok (.aload_n 1, 1) := by decide +kernel
theorem dX4_goOn_138 : decode cX4_goOn 138 = .ok (.aload_n 2, 1) := by decide +kernel
theorem dX4_goOn_139 : decode cX4_goOn 139 = .ok (.iload_n 3, 1) := by decide +kernel
theorem dX4_goOn_140 : decode cX4_goOn 140 = .ok (.iconst 1, 1) := by decide +kernel
theorem dX4_goOn_141 : decode cX4_goOn 141 = .ok (.iload 8, 2) := by decide +kernel
theorem dX4_goOn_143 : decode cX4_goOn 143 = .ok (.ishl, 1) := by decide +kernel
theorem dX4_goOn_144 : decode cX4_goOn 144 = .ok (.iconst (-1), 1) := by decide +kernel
theorem dX4_goOn_145 : decode cX4_goOn 145 = .ok (.ixor, 1) := by decide +kernel
theorem dX4_goOn_146 : decode cX4_goOn 146 = .ok (.iand, 1) := by decide +kernel
theorem dX4_goOn_147 : decode cX4_goOn 147 = .ok (.iload 11, 2) := by decide +kernel
theorem dX4_goOn_149 : decode cX4_goOn 149 = .ok (.iload 12, 2) := by decide +kernel
theorem dX4_goOn_151 : decode cX4_goOn 151 = .ok (.aload_n 1, 1) := by decide +kernel
theorem dX4_goOn_152 : decode cX4_goOn 152 = .ok (.iload 10, 2) := by decide +kernel
theorem dX4_goOn_154 : decode cX4_goOn 154 = .ok (.iload 12, 2) := by decide +kernel
theorem dX4_goOn_156 : decode cX4_goOn 156 = .ok (.iload 6, 2) := by decide +kernel
theorem dX4_goOn_158 : decode cX4_goOn 158 = .ok (.invokevirtual 74, 3) := by decide +kernel
theorem dX4_goOn_161 : decode cX4_goOn 161 = .ok (.invokevirtual 46, 3) := by decide +kernel
theorem dX4_goOn_164 : decode cX4_goOn 164 = .ok (.iinc 8 1, 3) := by decide +kernel
theorem dX4_goOn_167 : decode cX4_goOn 167 = .ok (.goto (-115), 3) := by decide +kernel
theorem dX4_goOn_170 : decode cX4_goOn 170 = .ok (.return_, 1) := by decide +kernel
theorem dX5_init_0 : decode cX5_init 0 = .ok (.aload_n 0, 1) := by decide +kernel
theorem dX5_init_1 : decode cX5_init 1 = .ok (.invokespecial 3, 3) := by decide +kernel
theorem dX5_init_4 : decode cX5_init 4 = .ok (.aload_n 0, 1) := by decide +kernel
theorem dX5_init_5 : decode cX5_init 5 = .ok (.bipush 28, 2) := by decide +kernel
theorem dX5_init_7 : decode cX5_init 7 = .ok (.newarray .int, 2) := by decide +kernel
theorem dX5_init_9 : decode cX5_init 9 = .ok (.putfield 11, 3) := by decide +kernel
theorem dX5_init_12 : decode cX5_init 12 = .ok (.return_, 1) := by decide +kernel
theorem dX5_read_0 : decode cX5_read 0 = .ok (.aload_n 0, 1) := by decide +kernel
theorem dX5_read_1 : decode cX5_read 1 = .ok (.iconst 0, 1) := by decide +kernel
theorem dX5_read_2 : decode cX5_read 2 = .ok (.putfield 15, 3) := by decide +kernel
theorem dX5_read_5 : decode cX5_read 5 = .ok (.aload_n 0, 1) := by decide +kernel
theorem dX5_read_6 : decode cX5_read 6 = .ok (.iconst 0, 1) := by decide +kernel
theorem dX5_read_7 : decode cX5_read 7 = .ok (.putfield 19, 3) := by decide +kernel
theorem dX5_read_10 : decode cX5_read 10 = .ok (.aload_n 0, 1) := by decide +kernel
theorem dX5_read_11 : decode cX5_read 11 = .ok (.iconst 0, 1) := by decide +kernel
theorem dX5_read_12 : decode cX5_read 12 = .ok (.putfield 22, 3) := by decide +kernel
theorem dX5_read_15 : decode cX5_read 15 = .ok (.aload_n 0, 1) := by decide +kernel
theorem dX5_read_16 : decode cX5_read 16 = .ok (.aload_n 1, 1) := by decide +kernel
theorem dX5_read_17 : decode cX5_read 17 = .ok (.invokevirtual 25, 3) := by decide +kernel
theorem dX5_read_20 : decode cX5_read 20 = .ok (.aload_n 0, 1) := by decide +kernel
theorem dX5_read_21 : decode cX5_read 21 = .ok (.aload_n 1, 1) := by decide +kernel
theorem dX5_read_22 : decode cX5_read 22 = .ok (.invokevirtual 29, 3) := by decide +kernel
theorem dX5_read_25 : decode cX5_read 25 = .ok (.istore_n 2, 1) := by decide +kernel
theorem dX5_read_26 : decode cX5_read 26 = .ok (.iconst 0, 1) := by decide +kernel
theorem dX5_read_27 : decode cX5_read 27 = .ok (.istore_n 3, 1) := by decide +kernel
theorem dX5_read_28 : decode cX5_read 28 = .ok (.iload_n 2, 1) := by decide +kernel
theorem dX5_read_29 : decode cX5_read 29 = .ok (.ifCond .eq 68, 3) := by decide +kernel
theorem dX5_read_32 : decode cX5_read 32 = .ok (.iload_n 3, 1) := by decide +kernel
theorem dX5_read_33 : decode cX5_read 33 = .ok (.bipush 6, 2) := by decide +kernel
theorem dX5_read_35 : decode cX5_read 35 = .ok (.if_icmp .gt 62, 3) := by decide +kernel
theorem dX5_read_38 : decode cX5_read 38 = .ok (.aload_n 0, 1) := by decide +kernel
theorem dX5_read_39 : decode cX5_read 39 = .ok (.aload_n 1, 1) := by decide +kernel
theorem dX5_read_40 : decode cX5_read 40 = .ok (.invokevirtual 25, 3) := by decide +kernel
theorem dX5_read_43 : decode cX5_read 43 = .ok (.aload_n 0, 1) := by decide +kernel
theorem dX5_read_44 : decode cX5_read 44 = .ok (.getfield 22, 3) := by decide +kernel
theorem dX5_read_47 : decode cX5_read 47 = .ok (.aload_n 1, 1) := by decide +kernel
theorem dX5_read_48 : decode cX5_read 48 = .ok (.getfield 33, 3) := by decide +kernel
theorem dX5_read_51 : decode cX5_read 51 = .ok (.if_icmp .ne 20, 3) := by decide +kernel
theorem dX5_read_54 : decode cX5_read 54 = .ok (.aload_n 0, 1) := by decide +kernel
theorem dX5_read_55 : decode cX5_read 55 = .ok (.getfield 19, 3) := by decide +kernel
theorem dX5_read_58 : decode cX5_read 58 = .ok (.ifCond .le 8, 3) := by decide +kernel
theorem dX5_read_61 : decode cX5_read 61 = .ok (.bipush (-9), 2) := by decide +kernel
theorem dX5_read_63 : decode cX5_read 63 = .ok (.goto 7, 3) := by decide +kernel
theorem dX5_read_66 : decode cX5_read 66 = .ok (.aload_n 0, 1) := by decide +kernel
theorem dX5_read_67 : decode cX5_read 67 = .ok (.getfield 22, 3) := by decide +kernel
theorem dX5_read_70 : decode cX5_read 70 = .ok (.ireturn, 1) := by decide +kernel
theorem dX5_read_71 : decode cX5_read 71 = .ok (.iload_n 3, 1) := by decide +kernel
theorem dX5_read_72 : decode cX5_read 72 = .ok (.bipush 6, 2) := by decide +kernel
theorem dX5_read_74 : decode cX5_read 74 = .ok (.if_icmp .ge 15, 3) := by decide +kernel
theorem dX5_read_77 : decode cX5_read 77 = .ok (.aload_n 0, 1) := by decide +kernel
theorem dX5_read_78 : decode cX5_read 78 = .ok (.aload_n 1, 1) := by decide +kernel
theorem dX5_read_79 : decode cX5_read 79 = .ok (.invokevirtual 38, 3) := by decide +kernel
theorem dX5_read_82 : decode cX5_read 82 = .ok (.ifCond .eq 7, 3) := by decide +kernel
theorem dX5_read_85 : decode cX5_read 85 = .ok (.iconst 1, 1) := by decide +kernel
theorem dX5_read_86 : decode cX5_read 86 = .ok (.goto 4, 3) := by decide +kernel
theorem dX5_read_89 : decode cX5_read 89 = .ok (.iconst 0, 1) := by decide +kernel
theorem dX5_read_90 : decode cX5_read 90 = .ok (.istore_n 2, 1) := by decide +kernel
theorem dX5_read_91 : decode cX5_read 91 = .ok (.iinc 3 1, 3) := by decide +kernel
theorem dX5_read_94 : decode cX5_read 94 = .ok (.goto (-66), 3) := by decide +kernel
theorem dX5_read_97 : decode cX5_read 97 = .ok (.aload_n 0, 1) := by decide +kernel
theorem dX5_read_98 : decode cX5_read 98 = .ok (.getfield 22, 3) := by decide +kernel
theorem dX5_read_101 : decode cX5_read 101 = .ok (.ireturn, 1) := by decide +kernel
theorem dX5_takeIron_0 : decode cX5_takeIron 0 = .ok (.aload_n 0, 1) := by decide +kernel
theorem dX5_takeIron_1 : decode cX5_takeIron 1 = .ok (.getfield 22, 3) := by decide +kernel
theorem dX5_takeIron_4 : decode cX5_takeIron 4 = .ok (.aload_n 1, 1) := by decide +kernel
theorem dX5_takeIron_5 : decode cX5_takeIron 5 = .ok (.getfield 33, 3) := by decide +kernel
theorem dX5_takeIron_8 : decode cX5_takeIron 8 = .ok (.if_icmp .ge 17, 3) := by decide +kernel
theorem dX5_takeIron_11 : decode cX5_takeIron 11 = .ok (.aload_n 1, 1) := by decide +kernel
theorem dX5_takeIron_12 : decode cX5_takeIron 12 = .ok (.getfield 41, 3) := by decide +kernel
theorem dX5_takeIron_15 : decode cX5_takeIron 15 = .ok (.aload_n 0, 1) := by decide +kernel
theorem dX5_takeIron_16 : decode cX5_takeIron 16 = .ok (.getfield 22, 3) := by decide +kernel
theorem dX5_takeIron_19 : decode cX5_takeIron 19 = .ok (.iaload, 1) := by decide +kernel
theorem dX5_takeIron_20 : decode cX5_takeIron 20 = .ok (.bipush 105, 2) := by decide +kernel
theorem dX5_takeIron_22 : decode cX5_takeIron 22 = .ok (.if_icmp .eq 5, 3) := by decide +kernel
theorem dX5_takeIron_25 : decode cX5_takeIron 25 = .ok (.iconst 0, 1) := by decide +kernel
theorem dX5_takeIron_26 : decode cX5_takeIron 26 = .ok (.ireturn, 1) := by decide +kernel
theorem dX5_takeIron_27 : decode cX5_takeIron 27 = .ok (.aload_n 0, 1) := by decide +kernel
theorem dX5_takeIron_28 : decode cX5_takeIron 28 = .ok (.dup, 1) := by decide +kernel
theorem dX5_takeIron_29 : decode cX5_takeIron 29 = .ok (.getfield 22, 3) := by decide +kernel
theorem dX5_takeIron_32 : decode cX5_takeIron 32 = .ok (.iconst 1, 1) := by decide +kernel
theorem dX5_takeIron_33 : decode cX5_takeIron 33 = .ok (.iadd, 1) := by decide +kernel
theorem dX5_takeIron_34 : decode cX5_takeIron 34 = .ok (.putfield 22, 3) := by decide +kernel
theorem dX5_takeIron_37 : decode cX5_takeIron 37 = .ok (.aload_n 0, 1) := by decide +kernel
theorem dX5_takeIron_38 : decode cX5_takeIron 38 = .ok (.aload_n 1, 1) := by decide +kernel
theorem dX5_takeIron_39 : decode cX5_takeIron 39 = .ok (.iconst 1, 1) := by decide +kernel
theorem dX5_takeIron_40 : decode cX5_takeIron 40 = .ok (.iconst 3, 1) := by decide +kernel
theorem dX5_takeIron_41 : decode cX5_takeIron 41 = .ok (.invokevirtual 44, 3) := by decide +kernel
theorem dX5_takeIron_44 : decode cX5_takeIron 44 = .ok (.ifCond .eq 40, 3) := by decide +kernel
theorem dX5_takeIron_47 : decode cX5_takeIron 47 = .ok (.aload_n 0, 1) := by decide +kernel
theorem dX5_takeIron_48 : decode cX5_takeIron 48 = .ok (.aload_n 1, 1) := by decide +kernel
theorem dX5_takeIron_49 : decode cX5_takeIron 49 = .ok (.iconst 0, 1) := by decide +kernel
theorem dX5_takeIron_50 : decode cX5_takeIron 50 = .ok (.bipush 9, 2) := by decide +kernel
theorem dX5_takeIron_52 : decode cX5_takeIron 52 = .ok (.invokevirtual 44, 3) := by decide +kernel
theorem dX5_takeIron_55 : decode cX5_takeIron 55 = .ok (.ifCond .eq 29, 3) := by decide +kernel
theorem dX5_takeIron_58 : decode cX5_takeIron 58 = .ok (.aload_n 0, 1) := by decide +kernel
theorem dX5_takeIron_59 : decode cX5_takeIron 59 = .ok (.aload_n 1, 1) := by decide +kernel
theorem dX5_takeIron_60 : decode cX5_takeIron 60 = .ok (.iconst 0, 1) := by decide +kernel
theorem dX5_takeIron_61 : decode cX5_takeIron 61 = .ok (.bipush 9, 2) := by decide +kernel
theorem dX5_takeIron_63 : decode cX5_takeIron 63 = .ok (.invokevirtual 44, 3) := by decide +kernel
theorem dX5_takeIron_66 : decode cX5_takeIron 66 = .ok (.ifCond .eq 18, 3) := by decide +kernel
theorem dX5_takeIron_69 : decode cX5_takeIron 69 = .ok (.aload_n 0, 1) := by decide +kernel
theorem dX5_takeIron_70 : decode cX5_takeIron 70 = .ok (.aload_n 1, 1) := by decide +kernel
theorem dX5_takeIron_71 : decode cX5_takeIron 71 = .ok (.iconst 1, 1) := by decide +kernel
theorem dX5_takeIron_72 : decode cX5_takeIron 72 = .ok (.bipush 6, 2) := by decide +kernel
theorem dX5_takeIron_74 : decode cX5_takeIron 74 = .ok (.invokevirtual 44, 3) := by decide +kernel
theorem dX5_takeIron_77 : decode cX5_takeIron 77 = .ok (.ifCond .eq 7, 3) := by decide +kernel
theorem dX5_takeIron_80 : decode cX5_takeIron 80 = .ok (.iconst 1, 1) := by decide +kernel
theorem dX5_takeIron_81 : decode cX5_takeIron 81 = .ok (.goto 4, 3) := by decide +kernel
theorem dX5_takeIron_84 : decode cX5_takeIron 84 = .ok (.iconst 0, 1) := by decide +kernel
theorem dX5_takeIron_85 : decode cX5_takeIron 85 = .ok (.ireturn, 1) := by decide +kernel
theorem dX5_takeMan_0 : decode cX5_takeMan 0 = .ok (.aload_n 1, 1) := by decide +kernel
theorem dX5_takeMan_1 : decode cX5_takeMan 1 = .ok (.getfield 41, 3) := by decide +kernel
theorem dX5_takeMan_4 : decode cX5_takeMan 4 = .ok (.aload_n 0, 1) := by decide +kernel
theorem dX5_takeMan_5 : decode cX5_takeMan 5 = .ok (.getfield 22, 3) := by decide +kernel
theorem dX5_takeMan_8 : decode cX5_takeMan 8 = .ok (.iaload, 1) := by decide +kernel
theorem dX5_takeMan_9 : decode cX5_takeMan 9 = .ok (.invokestatic 48, 3) := by decide +kernel
theorem dX5_takeMan_12 : decode cX5_takeMan 12 = .ok (.istore_n 2, 1) := by decide +kernel
theorem dX5_takeMan_13 : decode cX5_takeMan 13 = .ok (.iload_n 2, 1) := by decide +kernel
theorem dX5_takeMan_14 : decode cX5_takeMan 14 = .ok (.bipush (-9), 2) := by decide +kernel
theorem dX5_takeMan_16 : decode cX5_takeMan 16 = .ok (.if_icmp .ne 5, 3) := by decide +kernel
theorem dX5_takeMan_19 : decode cX5_takeMan 19 = .ok (.iconst 0, 1) := by decide +kernel
theorem dX5_takeMan_20 : decode cX5_takeMan 20 = .ok (.ireturn, 1) := by decide +kernel
theorem dX5_takeMan_21 : decode cX5_takeMan 21 = .ok (.aload_n 0, 1) := by decide +kernel
theorem dX5_takeMan_22 : decode cX5_takeMan 22 = .ok (.iload_n 2, 1) := by decide +kernel
theorem dX5_takeMan_23 : decode cX5_takeMan 23 = .ok (.invokevirtual 52, 3) := by decide +kernel
theorem dX5_takeMan_26 : decode cX5_takeMan 26 = .ok (.aload_n 0, 1) := by decide +kernel
theorem dX5_takeMan_27 : decode cX5_takeMan 27 = .ok (.dup, 1) := by decide +kernel
theorem dX5_takeMan_28 : decode cX5_takeMan 28 = .ok (.getfield 19, 3) := by decide +kernel
theorem dX5_takeMan_31 : decode cX5_takeMan 31 = .ok (.iconst 1, 1) := by decide +kernel
theorem dX5_takeMan_32 : decode cX5_takeMan 32 = .ok (.iadd, 1) := by decide +kernel
theorem dX5_takeMan_33 : decode cX5_takeMan 33 = .ok (.putfield 19, 3) := by decide +kernel
theorem dX5_takeMan_36 : decode cX5_takeMan 36 = .ok (.aload_n 0, 1) := by decide +kernel
theorem dX5_takeMan_37 : decode cX5_takeMan 37 = .ok (.aload_n 1, 1) := by decide +kernel
theorem dX5_takeMan_38 : decode cX5_takeMan 38 = .ok (.iconst 0, 1) := by decide +kernel
theorem dX5_takeMan_39 : decode cX5_takeMan 39 = .ok (.iconst 1, 1) := by decide +kernel
theorem dX5_takeMan_40 : decode cX5_takeMan 40 = .ok (.invokevirtual 44, 3) := by decide +kernel
theorem dX5_takeMan_43 : decode cX5_takeMan 43 = .ok (.ifCond .eq 29, 3) := by decide +kernel
theorem dX5_takeMan_46 : decode cX5_takeMan 46 = .ok (.aload_n 0, 1) := by decide +kernel
theorem dX5_takeMan_47 : decode cX5_takeMan 47 = .ok (.aload_n 1, 1) := by decide +kernel
theorem dX5_takeMan_48 : decode cX5_takeMan 48 = .ok (.iconst 0, 1) := by decide +kernel
theorem dX5_takeMan_49 : decode cX5_takeMan 49 = .ok (.bipush 9, 2) := by decide +kernel
theorem dX5_takeMan_51 : decode cX5_takeMan 51 = .ok (.invokevirtual 44, 3) := by decide +kernel
theorem dX5_takeMan_54 : decode cX5_takeMan 54 = .ok (.ifCond .eq 18, 3) := by decide +kernel
theorem dX5_takeMan_57 : decode cX5_takeMan 57 = .ok (.aload_n 0, 1) := by decide +kernel
theorem dX5_takeMan_58 : decode cX5_takeMan 58 = .ok (.aload_n 1, 1) := by decide +kernel
theorem dX5_takeMan_59 : decode cX5_takeMan 59 = .ok (.iconst 0, 1) := by decide +kernel
theorem dX5_takeMan_60 : decode cX5_takeMan 60 = .ok (.bipush 9, 2) := by decide +kernel
theorem dX5_takeMan_62 : decode cX5_takeMan 62 = .ok (.invokevirtual 44, 3) := by decide +kernel
theorem dX5_takeMan_65 : decode cX5_takeMan 65 = .ok (.ifCond .eq 7, 3) := by decide +kernel
theorem dX5_takeMan_68 : decode cX5_takeMan 68 = .ok (.iconst 1, 1) := by decide +kernel
theorem dX5_takeMan_69 : decode cX5_takeMan 69 = .ok (.goto 4, 3) := by decide +kernel
theorem dX5_takeMan_72 : decode cX5_takeMan 72 = .ok (.iconst 0, 1) := by decide +kernel
theorem dX5_takeMan_73 : decode cX5_takeMan 73 = .ok (.ireturn, 1) := by decide +kernel
theorem dX5_takeFigure_0 : decode cX5_takeFigure 0 = .ok (.aload_n 0, 1) := by decide +kernel
theorem dX5_takeFigure_1 : decode cX5_takeFigure 1 = .ok (.getfield 22, 3) := by decide +kernel
theorem dX5_takeFigure_4 : decode cX5_takeFigure 4 = .ok (.aload_n 1, 1) := by decide +kernel
theorem dX5_takeFigure_5 : decode cX5_takeFigure 5 = .ok (.getfield 33, 3) := by decide +kernel
theorem dX5_takeFigure_8 : decode cX5_takeFigure 8 = .ok (.if_icmp .lt 5, 3) := by decide +kernel
theorem dX5_takeFigure_11 : decode cX5_takeFigure 11 = .ok (.iconst 0, 1) := by decide +kernel
theorem dX5_takeFigure_12 : decode cX5_takeFigure 12 = .ok (.ireturn, 1) := by decide +kernel
theorem dX5_takeFigure_13 : decode cX5_takeFigure 13 = .ok (.aload_n 1, 1) := by decide +kernel
theorem dX5_takeFigure_14 : decode cX5_takeFigure 14 = .ok (.getfield 41, 3) := by decide +kernel
theorem dX5_takeFigure_17 : decode cX5_takeFigure 17 = .ok (.aload_n 0, 1) := by decide +kernel
theorem dX5_takeFigure_18 : decode cX5_takeFigure 18 = .ok (.getfield 22, 3) := by decide +kernel
theorem dX5_takeFigure_21 : decode cX5_takeFigure 21 = .ok (.iaload, 1) := by decide +kernel
theorem dX5_takeFigure_22 : decode cX5_takeFigure 22 = .ok (.bipush 48, 2) := by decide +kernel
theorem dX5_takeFigure_24 : decode cX5_takeFigure 24 = .ok (.isub, 1) := by decide +kernel
theorem dX5_takeFigure_25 : decode cX5_takeFigure 25 = .ok (.istore 4, 2) := by decide +kernel
theorem dX5_takeFigure_27 : decode cX5_takeFigure 27 = .ok (.iload 4, 2) := by decide +kernel
theorem dX5_takeFigure_29 : decode cX5_takeFigure 29 = .ok (.iload_n 2, 1) := by decide +kernel
theorem dX5_takeFigure_30 : decode cX5_takeFigure 30 = .ok (.if_icmp .lt 9, 3) := by decide +kernel
theorem dX5_takeFigure_33 : decode cX5_takeFigure 33 = .ok (.iload 4, 2) := by decide +kernel
theorem dX5_takeFigure_35 : decode cX5_takeFigure 35 = .ok (.iload_n 3, 1) := by decide +kernel
theorem dX5_takeFigure_36 : decode cX5_takeFigure 36 = .ok (.if_icmp .le 5, 3) := by decide +kernel
theorem dX5_takeFigure_39 : decode cX5_takeFigure 39 = .ok (.iconst 0, 1) := by decide +kernel
theorem dX5_takeFigure_40 : decode cX5_takeFigure 40 = .ok (.ireturn, 1) := by decide +kernel
theorem dX5_takeFigure_41 : decode cX5_takeFigure 41 = .ok (.aload_n 0, 1) := by decide +kernel
theorem dX5_takeFigure_42 : decode cX5_takeFigure 42 = .ok (.iload 4, 2) := by decide +kernel
theorem dX5_takeFigure_44 : decode cX5_takeFigure 44 = .ok (.invokevirtual 52, 3) := by decide +kernel
theorem dX5_takeFigure_47 : decode cX5_takeFigure 47 = .ok (.iconst 1, 1) := by decide +kernel
theorem dX5_takeFigure_48 : decode cX5_takeFigure 48 = .ok (.ireturn, 1) := by decide +kernel
theorem dX5_take_0 : decode cX5_take 0 = .ok (.aload_n 0, 1) := by decide +kernel
theorem dX5_take_1 : decode cX5_take 1 = .ok (.getfield 15, 3) := by decide +kernel
theorem dX5_take_4 : decode cX5_take 4 = .ok (.aload_n 0, 1) := by decide +kernel
theorem dX5_take_5 : decode cX5_take 5 = .ok (.getfield 11, 3) := by decide +kernel
theorem dX5_take_8 : decode cX5_take 8 = .ok (.arraylength, 1) := by decide +kernel
theorem dX5_take_9 : decode cX5_take 9 = .ok (.if_icmp .ge 23, 3) := by decide +kernel
theorem dX5_take_12 : decode cX5_take 12 = .ok (.aload_n 0, 1) := by decide +kernel
theorem dX5_take_13 : decode cX5_take 13 = .ok (.getfield 11, 3) := by decide +kernel
theorem dX5_take_16 : decode cX5_take 16 = .ok (.aload_n 0, 1) := by decide +kernel
theorem dX5_take_17 : decode cX5_take 17 = .ok (.getfield 15, 3) := by decide +kernel
theorem dX5_take_20 : decode cX5_take 20 = .ok (.iload_n 1, 1) := by decide +kernel
theorem dX5_take_21 : decode cX5_take 21 = .ok (.iastore, 1) := by decide +kernel
theorem dX5_take_22 : decode cX5_take 22 = .ok (.aload_n 0, 1) := by decide +kernel
theorem dX5_take_23 : decode cX5_take 23 = .ok (.dup, 1) := by decide +kernel
theorem dX5_take_24 : decode cX5_take 24 = .ok (.getfield 15, 3) := by decide +kernel
theorem dX5_take_27 : decode cX5_take 27 = .ok (.iconst 1, 1) := by decide +kernel
theorem dX5_take_28 : decode cX5_take 28 = .ok (.iadd, 1) := by decide +kernel
theorem dX5_take_29 : decode cX5_take 29 = .ok (.putfield 15, 3) := by decide +kernel
theorem dX5_take_32 : decode cX5_take 32 = .ok (.aload_n 0, 1) := by decide +kernel
theorem dX5_take_33 : decode cX5_take 33 = .ok (.dup, 1) := by decide +kernel
theorem dX5_take_34 : decode cX5_take 34 = .ok (.getfield 22, 3) := by decide +kernel
theorem dX5_take_37 : decode cX5_take 37 = .ok (.iconst 1, 1) := by decide +kernel
theorem dX5_take_38 : decode cX5_take 38 = .ok (.iadd, 1) := by decide +kernel
theorem dX5_take_39 : decode cX5_take 39 = .ok (.putfield 22, 3) := by decide +kernel
theorem dX5_take_42 : decode cX5_take 42 = .ok (.return_, 1) := by decide +kernel
theorem dX5_passBlanks_0 : decode cX5_passBlanks 0 = .ok (.aload_n 0, 1) := by decide +kernel
theorem dX5_passBlanks_1 : decode cX5_passBlanks 1 = .ok (.getfield 22, 3) := by decide +kernel
theorem dX5_passBlanks_4 : decode cX5_passBlanks 4 = .ok (.aload_n 1, 1) := by decide +kernel
theorem dX5_passBlanks_5 : decode cX5_passBlanks 5 = .ok (.getfield 33, 3) := by decide +kernel
theorem dX5_passBlanks_8 : decode cX5_passBlanks 8 = .ok (.if_icmp .ge 30, 3) := by decide +kernel
theorem dX5_passBlanks_11 : decode cX5_passBlanks 11 = .ok (.aload_n 1, 1) := by decide +kernel
theorem dX5_passBlanks_12 : decode cX5_passBlanks 12 = .ok (.getfield 41, 3) := by decide +kernel
theorem dX5_passBlanks_15 : decode cX5_passBlanks 15 = .ok (.aload_n 0, 1) := by decide +kernel
theorem dX5_passBlanks_16 : decode cX5_passBlanks 16 = .ok (.getfield 22, 3) := by decide +kernel
theorem dX5_passBlanks_19 : decode cX5_passBlanks 19 = .ok (.iaload, 1) := by decide +kernel
theorem dX5_passBlanks_20 : decode cX5_passBlanks 20 = .ok (.bipush 32, 2) := by decide +kernel
theorem dX5_passBlanks_22 : decode cX5_passBlanks 22 = .ok (.if_icmp .ne 16, 3) := by decide +kernel
theorem dX5_passBlanks_25 : decode cX5_passBlanks 25 = .ok (.aload_n 0, 1) := by decide +kernel
theorem dX5_passBlanks_26 : decode cX5_passBlanks 26 = .ok (.dup, 1) := by decide +kernel
theorem dX5_passBlanks_27 : decode cX5_passBlanks 27 = .ok (.getfield 22, 3) := by decide +kernel
theorem dX5_passBlanks_30 : decode cX5_passBlanks 30 = .ok (.iconst 1, 1) := by decide +kernel
theorem dX5_passBlanks_31 : decode cX5_passBlanks 31 = .ok (.iadd, 1) := by decide +kernel
theorem dX5_passBlanks_32 : decode cX5_passBlanks 32 = .ok (.putfield 22, 3) := by decide +kernel
theorem dX5_passBlanks_35 : decode cX5_passBlanks 35 = .ok (.goto (-35), 3) := by decide +kernel
theorem dX5_passBlanks_38 : decode cX5_passBlanks 38 = .ok (.return_, 1) := by decide +kernel
theorem dX5_kindOf_0 : decode cX5_kindOf 0 = .ok (.iload_n 0, 1) := by decide +kernel
theorem dX5_kindOf_1 : decode cX5_kindOf 1 = .ok (.lookupswitch 71 #[(99, 63), (109, 59), (110, 69), (112, 61), (119, 65), (120, 67)], 59) := by decide +kernel
theorem dX5_kindOf_60 : decode cX5_kindOf 60 = .ok (.iconst 0, 1) := by decide +kernel
theorem dX5_kindOf_61 : decode cX5_kindOf 61 = .ok (.ireturn, 1) := by decide +kernel
theorem dX5_kindOf_62 : decode cX5_kindOf 62 = .ok (.iconst 1, 1) := by decide +kernel
theorem dX5_kindOf_63 : decode cX5_kindOf 63 = .ok (.ireturn, 1) := by decide +kernel
theorem dX5_kindOf_64 : decode cX5_kindOf 64 = .ok (.iconst 2, 1) := by decide +kernel
theorem dX5_kindOf_65 : decode cX5_kindOf 65 = .ok (.ireturn, 1) := by decide +kernel
theorem dX5_kindOf_66 : decode cX5_kindOf 66 = .ok (.iconst 3, 1) := by decide +kernel
theorem dX5_kindOf_67 : decode cX5_kindOf 67 = .ok (.ireturn, 1) := by decide +kernel
theorem dX5_kindOf_68 : decode cX5_kindOf 68 = .ok (.iconst 4, 1) := by decide +kernel
theorem dX5_kindOf_69 : decode cX5_kindOf 69 = .ok (.ireturn, 1) := by decide +kernel
theorem dX5_kindOf_70 : decode cX5_kindOf 70 = .ok (.iconst 5, 1) := by decide +kernel
theorem dX5_kindOf_71 : decode cX5_kindOf 71 = .ok (.ireturn, 1) := by decide +kernel
theorem dX5_kindOf_72 : decode cX5_kindOf 72 = .ok (.bipush (-9), 2) := by decide +kernel
theorem dX5_kindOf_74 : decode cX5_kindOf 74 = .ok (.ireturn, 1) := by decide +kernel
theorem dX6_init_0 : decode cX6_init 0 = .ok (.aload_n 0, 1) := by decide +kernel
theorem dX6_init_1 : decode cX6_init 1 = .ok (.invokespecial 3, 3) := by decide +kernel
theorem dX6_init_4 : decode cX6_init 4 = .ok (.aload_n 0, 1) := by decide +kernel
theorem dX6_init_5 : decode cX6_init 5 = .ok (.iconst (-1), 1) := by decide +kernel
theorem dX6_init_6 : decode cX6_init 6 = .ok (.putfield 9, 3) := by decide +kernel
theorem dX6_init_9 : decode cX6_init 9 = .ok (.aload_n 0, 1) := by decide +kernel
theorem dX6_init_10 : decode cX6_init 10 = .ok (.iload_n 1, 1) := by decide +kernel
theorem dX6_init_11 : decode cX6_init 11 = .ok (.newarray .int, 2) := by decide +kernel
theorem dX6_init_13 : decode cX6_init 13 = .ok (.putfield 15, 3) := by decide +kernel
theorem dX6_init_16 : decode cX6_init 16 = .ok (.return_, 1) := by decide +kernel
theorem dX6_isMissing_0 : decode cX6_isMissing 0 = .ok (.aload_n 0, 1) := by decide +kernel
theorem dX6_isMissing_1 : decode cX6_isMissing 1 = .ok (.getfield 9, 3) := by decide +kernel
theorem dX6_isMissing_4 : decode cX6_isMissing 4 = .ok (.iconst (-1), 1) := by decide +kernel
theorem dX6_isMissing_5 : decode cX6_isMissing 5 = .ok (.if_icmp .ne 7, 3) := by decide +kernel
theorem dX6_isMissing_8 : decode cX6_isMissing 8 = .ok (.iconst 1, 1) := by decide +kernel
theorem dX6_isMissing_9 : decode cX6_isMissing 9 = .ok (.goto 4, 3) := by decide +kernel
theorem dX6_isMissing_12 : decode cX6_isMissing 12 = .ok (.iconst 0, 1) := by decide +kernel
theorem dX6_isMissing_13 : decode cX6_isMissing 13 = .ok (.ireturn, 1) := by decide +kernel
theorem dX6_layOut_0 : decode cX6_layOut 0 = .ok (.iconst 0, 1) := by decide +kernel
theorem dX6_layOut_1 : decode cX6_layOut 1 = .ok (.istore_n 3, 1) := by decide +kernel
theorem dX6_layOut_2 : decode cX6_layOut 2 = .ok (.iload_n 3, 1) := by decide +kernel
theorem dX6_layOut_3 : decode cX6_layOut 3 = .ok (.iload_n 1, 1) := by decide +kernel
theorem dX6_layOut_4 : decode cX6_layOut 4 = .ok (.if_icmp .ge 25, 3) := by decide +kernel
theorem dX6_layOut_7 : decode cX6_layOut 7 = .ok (.iload_n 3, 1) := by decide +kernel
theorem dX6_layOut_8 : decode cX6_layOut 8 = .ok (.aload_n 0, 1) := by decide +kernel
theorem dX6_layOut_9 : decode cX6_layOut 9 = .ok (.getfield 15, 3) := by decide +kernel
theorem dX6_layOut_12 : decode cX6_layOut 12 = .ok (.arraylength, 1) := by decide +kernel
theorem dX6_layOut_13 : decode cX6_layOut 13 = .ok (.if_icmp .ge 16, 3) := by decide +kernel
theorem dX6_layOut_16 : decode cX6_layOut 16 = .ok (.aload_n 0, 1) := by decide +kernel
theorem dX6_layOut_17 : decode cX6_layOut 17 = .ok (.getfield 15, 3) := by decide +kernel
theorem dX6_layOut_20 : decode cX6_layOut 20 = .ok (.iload_n 3, 1) := by decide +kernel
theorem dX6_layOut_21 : decode cX6_layOut 21 = .ok (.iload_n 2, 1) := by decide +kernel
theorem dX6_layOut_22 : decode cX6_layOut 22 = .ok (.iastore, 1) := by decide +kernel
theorem dX6_layOut_23 : decode cX6_layOut 23 = .ok (.iinc 3 1, 3) := by decide +kernel
theorem dX6_layOut_26 : decode cX6_layOut 26 = .ok (.goto (-24), 3) := by decide +kernel
theorem dX6_layOut_29 : decode cX6_layOut 29 = .ok (.aload_n 0, 1) := by decide +kernel
theorem dX6_layOut_30 : decode cX6_layOut 30 = .ok (.iload_n 1, 1) := by decide +kernel
theorem dX6_layOut_31 : decode cX6_layOut 31 = .ok (.putfield 9, 3) := by decide +kernel
theorem dX6_layOut_34 : decode cX6_layOut 34 = .ok (.return_, 1) := by decide +kernel
theorem dX6_hasStretch_0 : decode cX6_hasStretch 0 = .ok (.iload_n 1, 1) := by decide +kernel
theorem dX6_hasStretch_1 : decode cX6_hasStretch 1 = .ok (.ifCond .lt 25, 3) := by decide +kernel
theorem dX6_hasStretch_4 : decode cX6_hasStretch 4 = .ok (.iload_n 1, 1) := by decide +kernel
theorem dX6_hasStretch_5 : decode cX6_hasStretch 5 = .ok (.aload_n 0, 1) := by decide +kernel
theorem dX6_hasStretch_6 : decode cX6_hasStretch 6 = .ok (.getfield 9, 3) := by decide +kernel
theorem dX6_hasStretch_9 : decode cX6_hasStretch 9 = .ok (.if_icmp .gt 17, 3) := by decide +kernel
theorem dX6_hasStretch_12 : decode cX6_hasStretch 12 = .ok (.iload_n 2, 1) := by decide +kernel
theorem dX6_hasStretch_13 : decode cX6_hasStretch 13 = .ok (.aload_n 0, 1) := by decide +kernel
theorem dX6_hasStretch_14 : decode cX6_hasStretch 14 = .ok (.getfield 9, 3) := by decide +kernel
theorem dX6_hasStretch_17 : decode cX6_hasStretch 17 = .ok (.iload_n 1, 1) := by decide +kernel
theorem dX6_hasStretch_18 : decode cX6_hasStretch 18 = .ok (.isub, 1) := by decide +kernel
theorem dX6_hasStretch_19 : decode cX6_hasStretch 19 = .ok (.if_icmp .gt 7, 3) := by decide +kernel
theorem dX6_hasStretch_22 : decode cX6_hasStretch 22 = .ok (.iconst 1, 1) := by decide +kernel
theorem dX6_hasStretch_23 : decode cX6_hasStretch 23 = .ok (.goto 4, 3) := by decide +kernel
theorem dX6_hasStretch_26 : decode cX6_hasStretch 26 = .ok (.iconst 0, 1) := by decide +kernel
theorem dX6_hasStretch_27 : decode cX6_hasStretch 27 = .ok (.ireturn, 1) := by decide +kernel
theorem dX6_sum_0 : decode cX6_sum 0 = .ok (.lconst 0, 1) := by decide +kernel
theorem dX6_sum_1 : decode cX6_sum 1 = .ok (.lstore_n 1, 1) := by decide +kernel
theorem dX6_sum_2 : decode cX6_sum 2 = .ok (.iconst 0, 1) := by decide +kernel
theorem dX6_sum_3 : decode cX6_sum 3 = .ok (.istore_n 3, 1) := by decide +kernel
theorem dX6_sum_4 : decode cX6_sum 4 = .ok (.iload_n 3, 1) := by decide +kernel
theorem dX6_sum_5 : decode cX6_sum 5 = .ok (.aload_n 0, 1) := by decide +kernel
theorem dX6_sum_6 : decode cX6_sum 6 = .ok (.getfield 9, 3) := by decide +kernel
theorem dX6_sum_9 : decode cX6_sum 9 = .ok (.if_icmp .ge 19, 3) := by decide +kernel
theorem dX6_sum_12 : decode cX6_sum 12 = .ok (.lload_n 1, 1) := by decide +kernel
theorem dX6_sum_13 : decode cX6_sum 13 = .ok (.aload_n 0, 1) := by decide +kernel
theorem dX6_sum_14 : decode cX6_sum 14 = .ok (.getfield 15, 3) := by decide +kernel
theorem dX6_sum_17 : decode cX6_sum 17 = .ok (.iload_n 3, 1) := by decide +kernel
theorem dX6_sum_18 : decode cX6_sum 18 = .ok (.iaload, 1) := by decide +kernel
theorem dX6_sum_19 : decode cX6_sum 19 = .ok (.i2l, 1) := by decide +kernel
theorem dX6_sum_20 : decode cX6_sum 20 = .ok (.ladd, 1) := by decide +kernel
theorem dX6_sum_21 : decode cX6_sum 21 = .ok (.lstore_n 1, 1) := by decide +kernel
theorem dX6_sum_22 : decode cX6_sum 22 = .ok (.iinc 3 1, 3) := by decide +kernel
theorem dX6_sum_25 : decode cX6_sum 25 = .ok (.goto (-21), 3) := by decide +kernel
theorem dX6_sum_28 : decode cX6_sum 28 = .ok (.lload_n 1, 1) := by decide +kernel
theorem dX6_sum_29 : decode cX6_sum 29 = .ok (.lreturn, 1) := by decide +kernel
theorem dX6_digestOnto_0 : decode cX6_digestOnto 0 = .ok (.ldc2_w 19, 3) := by decide +kernel
theorem dX6_digestOnto_3 : decode cX6_digestOnto 3 = .ok (.lload_n 1, 1) := by decide +kernel
theorem dX6_digestOnto_4 : decode cX6_digestOnto 4 = .ok (.lmul, 1) := by decide +kernel
theorem dX6_digestOnto_5 : decode cX6_digestOnto 5 = .ok (.aload_n 0, 1) := by decide +kernel
theorem dX6_digestOnto_6 : decode cX6_digestOnto 6 = .ok (.getfield 9, 3) := by decide +kernel
theorem dX6_digestOnto_9 : decode cX6_digestOnto 9 = .ok (.i2l, 1) := by decide +kernel
theorem dX6_digestOnto_10 : decode cX6_digestOnto 10 = .ok (.ladd, 1) := by decide +kernel
theorem dX6_digestOnto_11 : decode cX6_digestOnto 11 = .ok (.lstore_n 3, 1) := by decide +kernel
theorem dX6_digestOnto_12 : decode cX6_digestOnto 12 = .ok (.iconst 0, 1) := by decide +kernel
theorem dX6_digestOnto_13 : decode cX6_digestOnto 13 = .ok (.istore 5, 2) := by decide +kernel
theorem dX6_digestOnto_15 : decode cX6_digestOnto 15 = .ok (.iload 5, 2) := by decide +kernel
theorem dX6_digestOnto_17 : decode cX6_digestOnto 17 = .ok (.aload_n 0, 1) := by decide +kernel
theorem dX6_digestOnto_18 : decode cX6_digestOnto 18 = .ok (.getfield 9, 3) := by decide +kernel
theorem dX6_digestOnto_21 : decode cX6_digestOnto 21 = .ok (.if_icmp .ge 24, 3) := by decide +kernel
theorem dX6_digestOnto_24 : decode cX6_digestOnto 24 = .ok (.ldc2_w 19, 3) := by decide +kernel
theorem dX6_digestOnto_27 : decode cX6_digestOnto 27 = .ok (.lload_n 3, 1) := by decide +kernel
theorem dX6_digestOnto_28 : decode cX6_digestOnto 28 = .ok (.lmul, 1) := by decide +kernel
theorem dX6_digestOnto_29 : decode cX6_digestOnto 29 = .ok (.aload_n 0, 1) := by decide +kernel
theorem dX6_digestOnto_30 : decode cX6_digestOnto 30 = .ok (.getfield 15, 3) := by decide +kernel
theorem dX6_digestOnto_33 : decode cX6_digestOnto 33 = .ok (.iload 5, 2) := by decide +kernel
theorem dX6_digestOnto_35 : decode cX6_digestOnto 35 = .ok (.iaload, 1) := by decide +kernel
theorem dX6_digestOnto_36 : decode cX6_digestOnto 36 = .ok (.i2l, 1) := by decide +kernel
theorem dX6_digestOnto_37 : decode cX6_digestOnto 37 = .ok (.ladd, 1) := by decide +kernel
theorem dX6_digestOnto_38 : decode cX6_digestOnto 38 = .ok (.lstore_n 3, 1) := by decide +kernel
theorem dX6_digestOnto_39 : decode cX6_digestOnto 39 = .ok (.iinc 5 1, 3) := by decide +kernel
theorem dX6_digestOnto_42 : decode cX6_digestOnto 42 = .ok (.goto (-27), 3) := by decide +kernel
theorem dX6_digestOnto_45 : decode cX6_digestOnto 45 = .ok (.lload_n 3, 1) := by decide +kernel
theorem dX6_digestOnto_46 : decode cX6_digestOnto 46 = .ok (.lreturn, 1) := by decide +kernel
theorem dX7_init_0 : decode cX7_init 0 = .ok (.aload_n 0, 1) := by decide +kernel
theorem dX7_init_1 : decode cX7_init 1 = .ok (.invokespecial 1, 3) := by decide +kernel
theorem dX7_init_4 : decode cX7_init 4 = .ok (.aload_n 0, 1) := by decide +kernel
theorem dX7_init_5 : decode cX7_init 5 = .ok (.bipush 6, 2) := by decide +kernel
theorem dX7_init_7 : decode cX7_init 7 = .ok (.anewarray 9, 3) := by decide +kernel
theorem dX7_init_10 : decode cX7_init 10 = .ok (.putfield 11, 3) := by decide +kernel
theorem dX7_init_13 : decode cX7_init 13 = .ok (.aload_n 0, 1) := by decide +kernel
theorem dX7_init_14 : decode cX7_init 14 = .ok (.iconst 4, 1) := by decide +kernel
theorem dX7_init_15 : decode cX7_init 15 = .ok (.anewarray 9, 3) := by decide +kernel
theorem dX7_init_18 : decode cX7_init 18 = .ok (.putfield 15, 3) := by decide +kernel
theorem dX7_init_21 : decode cX7_init 21 = .ok (.aload_n 0, 1) := by decide +kernel
theorem dX7_init_22 : decode cX7_init 22 = .ok (.new 18, 3) := by decide +kernel
theorem dX7_init_25 : decode cX7_init 25 = .ok (.dup, 1) := by decide +kernel
theorem dX7_init_26 : decode cX7_init 26 = .ok (.invokespecial 20, 3) := by decide +kernel
theorem dX7_init_29 : decode cX7_init 29 = .ok (.putfield 21, 3) := by decide +kernel
theorem dX7_init_32 : decode cX7_init 32 = .ok (.aload_n 0, 1) := by decide +kernel
theorem dX7_init_33 : decode cX7_init 33 = .ok (.new 25, 3) := by decide +kernel
theorem dX7_init_36 : decode cX7_init 36 = .ok (.dup, 1) := by decide +kernel
theorem dX7_init_37 : decode cX7_init 37 = .ok (.invokespecial 27, 3) := by decide +kernel
theorem dX7_init_40 : decode cX7_init 40 = .ok (.putfield 28, 3) := by decide +kernel
theorem dX7_init_43 : decode cX7_init 43 = .ok (.aload_n 0, 1) := by decide +kernel
theorem dX7_init_44 : decode cX7_init 44 = .ok (.iconst 3, 1) := by decide +kernel
theorem dX7_init_45 : decode cX7_init 45 = .ok (.anewarray 32, 3) := by decide +kernel
theorem dX7_init_48 : decode cX7_init 48 = .ok (.putfield 34, 3) := by decide +kernel
theorem dX7_init_51 : decode cX7_init 51 = .ok (.aload_n 0, 1) := by decide +kernel
theorem dX7_init_52 : decode cX7_init 52 = .ok (.new 38, 3) := by decide +kernel
theorem dX7_init_55 : decode cX7_init 55 = .ok (.dup, 1) := by decide +kernel
theorem dX7_init_56 : decode cX7_init 56 = .ok (.invokespecial 40, 3) := by decide +kernel
theorem dX7_init_59 : decode cX7_init 59 = .ok (.putfield 41, 3) := by decide +kernel
theorem dX7_init_62 : decode cX7_init 62 = .ok (.aload_n 0, 1) := by decide +kernel
theorem dX7_init_63 : decode cX7_init 63 = .ok (.new 45, 3) := by decide +kernel
theorem dX7_init_66 : decode cX7_init 66 = .ok (.dup, 1) := by decide +kernel
theorem dX7_init_67 : decode cX7_init 67 = .ok (.invokespecial 47, 3) := by decide +kernel
theorem dX7_init_70 : decode cX7_init 70 = .ok (.putfield 48, 3) := by decide +kernel
theorem dX7_init_73 : decode cX7_init 73 = .ok (.aload_n 0, 1) := by decide +kernel
theorem dX7_init_74 : decode cX7_init 74 = .ok (.bipush 6, 2) := by decide +kernel
theorem dX7_init_76 : decode cX7_init 76 = .ok (.newarray .int, 2) := by decide +kernel
theorem dX7_init_78 : decode cX7_init 78 = .ok (.putfield 52, 3) := by decide +kernel
theorem dX7_init_81 : decode cX7_init 81 = .ok (.aload_n 0, 1) := by decide +kernel
theorem dX7_init_82 : decode cX7_init 82 = .ok (.lconst 1, 1) := by decide +kernel
theorem dX7_init_83 : decode cX7_init 83 = .ok (.putfield 56, 3) := by decide +kernel
theorem dX7_init_86 : decode cX7_init 86 = .ok (.iconst 0, 1) := by decide +kernel
theorem dX7_init_87 : decode cX7_init 87 = .ok (.istore_n 1, 1) := by decide +kernel
theorem dX7_init_88 : decode cX7_init 88 = .ok (.iload_n 1, 1) := by decide +kernel
theorem dX7_init_89 : decode cX7_init 89 = .ok (.bipush 6, 2) := by decide +kernel
theorem dX7_init_91 : decode cX7_init 91 = .ok (.if_icmp .ge 24, 3) := by decide +kernel
theorem dX7_init_94 : decode cX7_init 94 = .ok (.aload_n 0, 1) := by decide +kernel
theorem dX7_init_95 : decode cX7_init 95 = .ok (.getfield 11, 3) := by decide +kernel
theorem dX7_init_98 : decode cX7_init 98 = .ok (.iload_n 1, 1) := by decide +kernel
theorem dX7_init_99 : decode cX7_init 99 = .ok (.new 9, 3) := by decide +kernel
theorem dX7_init_102 : decode cX7_init 102 = .ok (.dup, 1) := by decide +kernel
theorem dX7_init_103 : decode cX7_init 103 = .ok (.bipush 40, 2) := by decide +kernel
theorem dX7_init_105 : decode cX7_init 105 = .ok (.invokespecial 60, 3) := by decide +kernel
theorem dX7_init_108 : decode cX7_init 108 = .ok (.aastore, 1) := by decide +kernel
theorem dX7_init_109 : decode cX7_init 109 = .ok (.iinc 1 1, 3) := by decide +kernel
theorem dX7_init_112 : decode cX7_init 112 = .ok (.goto (-24), 3) := by decide +kernel
theorem dX7_init_115 : decode cX7_init 115 = .ok (.iconst 0, 1) := by decide +kernel
theorem dX7_init_116 : decode cX7_init 116 = .ok (.istore_n 1, 1) := by decide +kernel
theorem dX7_init_117 : decode cX7_init 117 = .ok (.iload_n 1, 1) := by decide +kernel
theorem dX7_init_118 : decode cX7_init 118 = .ok (.iconst 4, 1) := by decide +kernel
theorem dX7_init_119 : decode cX7_init 119 = .ok (.if_icmp .ge 24, 3) := by decide +kernel
theorem dX7_init_122 : decode cX7_init 122 = .ok (.aload_n 0, 1) := by decide +kernel
theorem dX7_init_123 : decode cX7_init 123 = .ok (.getfield 15, 3) := by decide +kernel
theorem dX7_init_126 : decode cX7_init 126 = .ok (.iload_n 1, 1) := by decide +kernel
theorem dX7_init_127 : decode cX7_init 127 = .ok (.new 9, 3) := by decide +kernel
theorem dX7_init_130 : decode cX7_init 130 = .ok (.dup, 1) := by decide +kernel
theorem dX7_init_131 : decode cX7_init 131 = .ok (.bipush 60, 2) := by decide +kernel
theorem dX7_init_133 : decode cX7_init 133 = .ok (.invokespecial 60, 3) := by decide +kernel
theorem dX7_init_136 : decode cX7_init 136 = .ok (.aastore, 1) := by decide +kernel
theorem dX7_init_137 : decode cX7_init 137 = .ok (.iinc 1 1, 3) := by decide +kernel
theorem dX7_init_140 : decode cX7_init 140 = .ok (.goto (-23), 3) := by decide +kernel
theorem dX7_init_143 : decode cX7_init 143 = .ok (.iconst 0, 1) := by decide +kernel
theorem dX7_init_144 : decode cX7_init 144 = .ok (.istore_n 1, 1) := by decide +kernel
theorem dX7_init_145 : decode cX7_init 145 = .ok (.iload_n 1, 1) := by decide +kernel
theorem dX7_init_146 : decode cX7_init 146 = .ok (.iconst 3, 1) := by decide +kernel
theorem dX7_init_147 : decode cX7_init 147 = .ok (.if_icmp .ge 23, 3) := by decide +kernel
theorem dX7_init_150 : decode cX7_init 150 = .ok (.aload_n 0, 1) := by decide +kernel
theorem dX7_init_151 : decode cX7_init 151 = .ok (.getfield 34, 3) := by decide +kernel
theorem dX7_init_154 : decode cX7_init 154 = .ok (.iload_n 1, 1) := by decide +kernel
theorem dX7_init_155 : decode cX7_init 155 = .ok (.new 32, 3) := by decide +kernel
theorem dX7_init_158 : decode cX7_init 158 = .ok (.dup, 1) := by decide +kernel
theorem dX7_init_159 : decode cX7_init 159 = .ok (.iconst (-1), 1) := by decide +kernel
theorem dX7_init_160 : decode cX7_init 160 = .ok (.invokespecial 63, 3) := by decide +kernel
theorem dX7_init_163 : decode cX7_init 163 = .ok (.aastore, 1) := by decide +kernel
theorem dX7_init_164 : decode cX7_init 164 = .ok (.iinc 1 1, 3) := by decide +kernel
theorem dX7_init_167 : decode cX7_init 167 = .ok (.goto (-22), 3) := by decide +kernel
theorem dX7_init_170 : decode cX7_init 170 = .ok (.return_, 1) := by decide +kernel
theorem dX7_row_0 : decode cX7_row 0 = .ok (.aload_n 0, 1) := by decide +kernel
theorem dX7_row_1 : decode cX7_row 1 = .ok (.aload_n 0, 1) := by decide +kernel
theorem dX7_row_2 : decode cX7_row 2 = .ok (.getfield 11, 3) := by decide +kernel
theorem dX7_row_5 : decode cX7_row 5 = .ok (.iload_n 1, 1) := by decide +kernel
theorem dX7_row_6 : decode cX7_row 6 = .ok (.iload_n 2, 1) := by decide +kernel
theorem dX7_row_7 : decode cX7_row 7 = .ok (.iconst 0, 1) := by decide +kernel
theorem dX7_row_8 : decode cX7_row 8 = .ok (.invokevirtual 64, 3) := by decide +kernel
theorem dX7_row_11 : decode cX7_row 11 = .ok (.ireturn, 1) := by decide +kernel
theorem dX7_lay_0 : decode cX7_lay 0 = .ok (.aload_n 0, 1) := by decide +kernel
theorem dX7_lay_1 : decode cX7_lay 1 = .ok (.aload_n 0, 1) := by decide +kernel
theorem dX7_lay_2 : decode cX7_lay 2 = .ok (.getfield 11, 3) := by decide +kernel
theorem dX7_lay_5 : decode cX7_lay 5 = .ok (.iload_n 1, 1) := by decide +kernel
theorem dX7_lay_6 : decode cX7_lay 6 = .ok (.iload_n 2, 1) := by decide +kernel
theorem dX7_lay_7 : decode cX7_lay 7 = .ok (.invokevirtual 68, 3) := by decide +kernel
theorem dX7_lay_10 : decode cX7_lay 10 = .ok (.istore 4, 2) := by decide +kernel
theorem dX7_lay_12 : decode cX7_lay 12 = .ok (.iload 4, 2) := by decide +kernel
theorem dX7_lay_14 : decode cX7_lay 14 = .ok (.ifCond .eq 6, 3) := by decide +kernel
theorem dX7_lay_17 : decode cX7_lay 17 = .ok (.iload 4, 2) := by decide +kernel
theorem dX7_lay_19 : decode cX7_lay 19 = .ok (.ireturn, 1) := by decide +kernel
theorem dX7_lay_20 : decode cX7_lay 20 = .ok (.aload_n 0, 1) := by decide +kernel
theorem dX7_lay_21 : decode cX7_lay 21 = .ok (.aload_n 0, 1) := by decide +kernel
theorem dX7_lay_22 : decode cX7_lay 22 = .ok (.getfield 11, 3) := by decide +kernel
theorem dX7_lay_25 : decode cX7_lay 25 = .ok (.iload_n 1, 1) := by decide +kernel
theorem dX7_lay_26 : decode cX7_lay 26 = .ok (.aaload, 1) := by decide +kernel
theorem dX7_lay_27 : decode cX7_lay 27 = .ok (.getfield 72, 3) := by decide +kernel
theorem dX7_lay_30 : decode cX7_lay 30 = .ok (.iload_n 2, 1) := by decide +kernel
theorem dX7_lay_31 : decode cX7_lay 31 = .ok (.iaload, 1) := by decide +kernel
theorem dX7_lay_32 : decode cX7_lay 32 = .ok (.putfield 75, 3) := by decide +kernel
theorem dX7_lay_35 : decode cX7_lay 35 = .ok (.aload_n 0, 1) := by decide +kernel
theorem dX7_lay_36 : decode cX7_lay 36 = .ok (.getfield 11, 3) := by decide +kernel
theorem dX7_lay_39 : decode cX7_lay 39 = .ok (.iload_n 1, 1) := by decide +kernel
theorem dX7_lay_40 : decode cX7_lay 40 = .ok (.aaload, 1) := by decide +kernel
theorem dX7_lay_41 : decode cX7_lay 41 = .ok (.getfield 72, 3) := by decide +kernel
theorem dX7_lay_44 : decode cX7_lay 44 = .ok (.iload_n 2, 1) := by decide +kernel
theorem dX7_lay_45 : decode cX7_lay 45 = .ok (.iload_n 3, 1) := by decide +kernel
theorem dX7_lay_46 : decode cX7_lay 46 = .ok (.iastore, 1) := by decide +kernel
theorem dX7_lay_47 : decode cX7_lay 47 = .ok (.iconst 1, 1) := by decide +kernel
theorem dX7_lay_48 : decode cX7_lay 48 = .ok (.ireturn, 1) := by decide +kernel
theorem dX7_at_0 : decode cX7_at 0 = .ok (.aload_n 0, 1) := by decide +kernel
theorem dX7_at_1 : decode cX7_at 1 = .ok (.aload_n 0, 1) := by decide +kernel
theorem dX7_at_2 : decode cX7_at 2 = .ok (.getfield 11, 3) := by decide +kernel
theorem dX7_at_5 : decode cX7_at 5 = .ok (.iload_n 1, 1) := by decide +kernel
theorem dX7_at_6 : decode cX7_at 6 = .ok (.iload_n 2, 1) := by decide +kernel
theorem dX7_at_7 : decode cX7_at 7 = .ok (.invokevirtual 68, 3) := by decide +kernel
theorem dX7_at_10 : decode cX7_at 10 = .ok (.istore_n 3, 1) := by decide +kernel
theorem dX7_at_11 : decode cX7_at 11 = .ok (.iload_n 3, 1) := by decide +kernel
theorem dX7_at_12 : decode cX7_at 12 = .ok (.ifCond .eq 5, 3) := by decide +kernel
theorem dX7_at_15 : decode cX7_at 15 = .ok (.iload_n 3, 1) := by decide +kernel
theorem dX7_at_16 : decode cX7_at 16 = .ok (.ireturn, 1) := by decide +kernel
theorem dX7_at_17 : decode cX7_at 17 = .ok (.aload_n 0, 1) := by decide +kernel
theorem dX7_at_18 : decode cX7_at 18 = .ok (.aload_n 0, 1) := by decide +kernel
theorem dX7_at_19 : decode cX7_at 19 = .ok (.getfield 11, 3) := by decide +kernel
theorem dX7_at_22 : decode cX7_at 22 = .ok (.iload_n 1, 1) := by decide +kernel
theorem dX7_at_23 : decode cX7_at 23 = .ok (.aaload, 1) := by decide +kernel
theorem dX7_at_24 : decode cX7_at 24 = .ok (.getfield 72, 3) := by decide +kernel
theorem dX7_at_27 : decode cX7_at 27 = .ok (.iload_n 2, 1) := by decide +kernel
theorem dX7_at_28 : decode cX7_at 28 = .ok (.iaload, 1) := by decide +kernel
theorem dX7_at_29 : decode cX7_at 29 = .ok (.putfield 75, 3) := by decide +kernel
theorem dX7_at_32 : decode cX7_at 32 = .ok (.iconst 1, 1) := by decide +kernel
theorem dX7_at_33 : decode cX7_at 33 = .ok (.ireturn, 1) := by decide +kernel
theorem dX7_tear_0 : decode cX7_tear 0 = .ok (.aload_n 0, 1) := by decide +kernel
theorem dX7_tear_1 : decode cX7_tear 1 = .ok (.aload_n 0, 1) := by decide +kernel
theorem dX7_tear_2 : decode cX7_tear 2 = .ok (.getfield 11, 3) := by decide +kernel
theorem dX7_tear_5 : decode cX7_tear 5 = .ok (.iload_n 1, 1) := by decide +kernel
theorem dX7_tear_6 : decode cX7_tear 6 = .ok (.invokevirtual 79, 3) := by decide +kernel
theorem dX7_tear_9 : decode cX7_tear 9 = .ok (.istore_n 2, 1) := by decide +kernel
theorem dX7_tear_10 : decode cX7_tear 10 = .ok (.iload_n 2, 1) := by decide +kernel
theorem dX7_tear_11 : decode cX7_tear 11 = .ok (.ifCond .eq 5, 3) := by decide +kernel
theorem dX7_tear_14 : decode cX7_tear 14 = .ok (.iload_n 2, 1) := by decide +kernel
theorem dX7_tear_15 : decode cX7_tear 15 = .ok (.ireturn, 1) := by decide +kernel
theorem dX7_tear_16 : decode cX7_tear 16 = .ok (.aload_n 0, 1) := by decide +kernel
theorem dX7_tear_17 : decode cX7_tear 17 = .ok (.getfield 11, 3) := by decide +kernel
theorem dX7_tear_20 : decode cX7_tear 20 = .ok (.iload_n 1, 1) := by decide +kernel
theorem dX7_tear_21 : decode cX7_tear 21 = .ok (.aaload, 1) := by decide +kernel
theorem dX7_tear_22 : decode cX7_tear 22 = .ok (.iconst (-1), 1) := by decide +kernel
theorem dX7_tear_23 : decode cX7_tear 23 = .ok (.putfield 83, 3) := by decide +kernel
theorem dX7_tear_26 : decode cX7_tear 26 = .ok (.iconst 1, 1) := by decide +kernel
theorem dX7_tear_27 : decode cX7_tear 27 = .ok (.ireturn, 1) := by decide +kernel
theorem dX7_copy_0 : decode cX7_copy 0 = .ok (.aload_n 0, 1) := by decide +kernel
theorem dX7_copy_1 : decode cX7_copy 1 = .ok (.getfield 11, 3) := by decide +kernel
theorem dX7_copy_4 : decode cX7_copy 4 = .ok (.iload_n 1, 1) := by decide +kernel
theorem dX7_copy_5 : decode cX7_copy 5 = .ok (.invokestatic 86, 3) := by decide +kernel
theorem dX7_copy_8 : decode cX7_copy 8 = .ok (.ifCond .eq 14, 3) := by decide +kernel
theorem dX7_copy_11 : decode cX7_copy 11 = .ok (.aload_n 0, 1) := by decide +kernel
theorem dX7_copy_12 : decode cX7_copy 12 = .ok (.getfield 11, 3) := by decide +kernel
theorem dX7_copy_15 : decode cX7_copy 15 = .ok (.iload_n 3, 1) := by decide +kernel
theorem dX7_copy_16 : decode cX7_copy 16 = .ok (.invokestatic 86, 3) := by decide +kernel
theorem dX7_copy_19 : decode cX7_copy 19 = .ok (.ifCond .ne 5, 3) := by decide +kernel
theorem dX7_copy_22 : decode cX7_copy 22 = .ok (.iconst (-1), 1) := by decide +kernel
theorem dX7_copy_23 : decode cX7_copy 23 = .ok (.ireturn, 1) := by decide +kernel
theorem dX7_copy_24 : decode cX7_copy 24 = .ok (.iload 5, 2) := by decide +kernel
theorem dX7_copy_26 : decode cX7_copy 26 = .ok (.ifCond .ge 9, 3) := by decide +kernel
theorem dX7_copy_29 : decode cX7_copy 29 = .ok (.aload_n 0, 1) := by decide +kernel
theorem dX7_copy_30 : decode cX7_copy 30 = .ok (.iconst 5, 1) := by decide +kernel
theorem dX7_copy_31 : decode cX7_copy 31 = .ok (.invokevirtual 90, 3) := by decide +kernel
theorem dX7_copy_34 : decode cX7_copy 34 = .ok (.ireturn, 1) := by decide +kernel
theorem dX7_copy_35 : decode cX7_copy 35 = .ok (.aload_n 0, 1) := by decide +kernel
theorem dX7_copy_36 : decode cX7_copy 36 = .ok (.getfield 11, 3) := by decide +kernel
theorem dX7_copy_39 : decode cX7_copy 39 = .ok (.iload_n 1, 1) := by decide +kernel
theorem dX7_copy_40 : decode cX7_copy 40 = .ok (.aaload, 1) := by decide +kernel
theorem dX7_copy_41 : decode cX7_copy 41 = .ok (.astore 6, 2) := by decide +kernel
theorem dX7_copy_43 : decode cX7_copy 43 = .ok (.aload_n 0, 1) := by decide +kernel
theorem dX7_copy_44 : decode cX7_copy 44 = .ok (.getfield 11, 3) := by decide +kernel
theorem dX7_copy_47 : decode cX7_copy 47 = .ok (.iload_n 3, 1) := by decide +kernel
theorem dX7_copy_48 : decode cX7_copy 48 = .ok (.aaload, 1) := by decide +kernel
theorem dX7_copy_49 : decode cX7_copy 49 = .ok (.astore 7, 2) := by decide +kernel
theorem dX7_copy_51 : decode cX7_copy 51 = .ok (.aload 6, 2) := by decide +kernel
theorem dX7_copy_53 : decode cX7_copy 53 = .ok (.invokevirtual 94, 3) := by decide +kernel
theorem dX7_copy_56 : decode cX7_copy 56 = .ok (.ifCond .ne 11, 3) := by decide +kernel
theorem dX7_copy_59 : decode cX7_copy 59 = .ok (.aload 7, 2) := by decide +kernel
theorem dX7_copy_61 : decode cX7_copy 61 = .ok (.invokevirtual 94, 3) := by decide +kernel
theorem dX7_copy_64 : decode cX7_copy 64 = .ok (.ifCond .eq 9, 3) := by decide +kernel
theorem dX7_copy_67 : decode cX7_copy 67 = .ok (.aload_n 0, 1) := by decide +kernel
theorem dX7_copy_68 : decode cX7_copy 68 = .ok (.iconst 1, 1) := by decide +kernel
theorem dX7_copy_69 : decode cX7_copy 69 = .ok (.invokevirtual 90, 3) := by decide +kernel
theorem dX7_copy_72 : decode cX7_copy 72 = .ok (.ireturn, 1) := by decide +kernel
theorem dX7_copy_73 : decode cX7_copy 73 = .ok (.aload 6, 2) := by decide +kernel
theorem dX7_copy_75 : decode cX7_copy 75 = .ok (.iload_n 2, 1) := by decide +kernel
theorem dX7_copy_76 : decode cX7_copy 76 = .ok (.iload 5, 2) := by decide +kernel
theorem dX7_copy_78 : decode cX7_copy 78 = .ok (.invokevirtual 98, 3) := by decide +kernel
theorem dX7_copy_81 : decode cX7_copy 81 = .ok (.ifCond .eq 15, 3) := by decide +kernel
theorem dX7_copy_84 : decode cX7_copy 84 = .ok (.aload 7, 2) := by decide +kernel
theorem dX7_copy_86 : decode cX7_copy 86 = .ok (.iload 4, 2) := by decide +kernel
theorem dX7_copy_88 : decode cX7_copy 88 = .ok (.iload 5, 2) := by decide +kernel
theorem dX7_copy_90 : decode cX7_copy 90 = .ok (.invokevirtual 98, 3) := by decide +kernel
theorem dX7_copy_93 : decode cX7_copy 93 = .ok (.ifCond .ne 9, 3) := by decide +kernel
theorem dX7_copy_96 : decode cX7_copy 96 = .ok (.aload_n 0, 1) := by decide +kernel
theorem dX7_copy_97 : decode cX7_copy 97 = .ok (.iconst 2, 1) := by decide +kernel
theorem dX7_copy_98 : decode cX7_copy 98 = .ok (.invokevirtual 90, 3) := by decide +kernel
theorem dX7_copy_101 : decode cX7_copy 101 = .ok (.ireturn, 1) := by decide +kernel
theorem dX7_copy_102 : decode cX7_copy 102 = .ok (.aload 6, 2) := by decide +kernel
theorem dX7_copy_104 : decode cX7_copy 104 = .ok (.getfield 72, 3) := by decide +kernel
theorem dX7_copy_107 : decode cX7_copy 107 = .ok (.iload_n 2, 1) := by decide +kernel
theorem dX7_copy_108 : decode cX7_copy 108 = .ok (.aload 7, 2) := by decide +kernel
theorem dX7_copy_110 : decode cX7_copy 110 = .ok (.getfield 72, 3) := by decide +kernel
theorem dX7_copy_113 : decode cX7_copy 113 = .ok (.iload 4, 2) := by decide +kernel
theorem dX7_copy_115 : decode cX7_copy 115 = .ok (.iload 5, 2) := by decide +kernel
theorem dX7_copy_117 : decode cX7_copy 117 = .ok (.invokestatic 102, 3) := by decide +kernel
theorem dX7_copy_120 : decode cX7_copy 120 = .ok (.iconst 1, 1) := by decide +kernel
theorem dX7_copy_121 : decode cX7_copy 121 = .ok (.ireturn, 1) := by decide +kernel
theorem dX7_mean_0 : decode cX7_mean 0 = .ok (.aload_n 0, 1) := by decide +kernel
theorem dX7_mean_1 : decode cX7_mean 1 = .ok (.aload_n 0, 1) := by decide +kernel
theorem dX7_mean_2 : decode cX7_mean 2 = .ok (.getfield 11, 3) := by decide +kernel
theorem dX7_mean_5 : decode cX7_mean 5 = .ok (.iload_n 1, 1) := by decide +kernel
theorem dX7_mean_6 : decode cX7_mean 6 = .ok (.invokevirtual 79, 3) := by decide +kernel
theorem dX7_mean_9 : decode cX7_mean 9 = .ok (.istore_n 2, 1) := by decide +kernel
theorem dX7_mean_10 : decode cX7_mean 10 = .ok (.iload_n 2, 1) := by decide +kernel
theorem dX7_mean_11 : decode cX7_mean 11 = .ok (.ifCond .eq 5, 3) := by decide +kernel
theorem dX7_mean_14 : decode cX7_mean 14 = .ok (.iload_n 2, 1) := by decide +kernel
theorem dX7_mean_15 : decode cX7_mean 15 = .ok (.ireturn, 1) := by decide +kernel
theorem dX7_mean_16 : decode cX7_mean 16 = .ok (.aload_n 0, 1) := by decide +kernel
theorem dX7_mean_17 : decode cX7_mean 17 = .ok (.getfield 11, 3) := by decide +kernel
theorem dX7_mean_20 : decode cX7_mean 20 = .ok (.iload_n 1, 1) := by decide +kernel
theorem dX7_mean_21 : decode cX7_mean 21 = .ok (.aaload, 1) := by decide +kernel
theorem dX7_mean_22 : decode cX7_mean 22 = .ok (.astore_n 3, 1) := by decide +kernel
theorem dX7_mean_23 : decode cX7_mean 23 = .ok (.aload_n 3, 1) := by decide +kernel
theorem dX7_mean_24 : decode cX7_mean 24 = .ok (.getfield 83, 3) := by decide +kernel
theorem dX7_mean_27 : decode cX7_mean 27 = .ok (.ifCond .ne 9, 3) := by decide +kernel
theorem dX7_mean_30 : decode cX7_mean 30 = .ok (.aload_n 0, 1) := by decide +kernel
theorem dX7_mean_31 : decode cX7_mean 31 = .ok (.iconst 4, 1) := by decide +kernel
theorem dX7_mean_32 : decode cX7_mean 32 = .ok (.invokevirtual 90, 3) := by decide +kernel
theorem dX7_mean_35 : decode cX7_mean 35 = .ok (.ireturn, 1) := by decide +kernel
theorem dX7_mean_36 : decode cX7_mean 36 = .ok (.aload_n 0, 1) := by decide +kernel
theorem dX7_mean_37 : decode cX7_mean 37 = .ok (.aload_n 3, 1) := by decide +kernel
theorem dX7_mean_38 : decode cX7_mean 38 = .ok (.invokevirtual 108, 3) := by decide +kernel
theorem dX7_mean_41 : decode cX7_mean 41 = .ok (.aload_n 3, 1) := by decide +kernel
theorem dX7_mean_42 : decode cX7_mean 42 = .ok (.getfield 83, 3) := by decide +kernel
theorem dX7_mean_45 : decode cX7_mean 45 = .ok (.i2l, 1) := by decide +kernel
theorem dX7_mean_46 : decode cX7_mean 46 = .ok (.ldiv, 1) := by decide +kernel
theorem dX7_mean_47 : decode cX7_mean 47 = .ok (.l2i, 1) := by decide +kernel
theorem dX7_mean_48 : decode cX7_mean 48 = .ok (.putfield 75, 3) := by decide +kernel
theorem dX7_mean_51 : decode cX7_mean 51 = .ok (.iconst 1, 1) := by decide +kernel
theorem dX7_mean_52 : decode cX7_mean 52 = .ok (.ireturn, 1) := by decide +kernel
theorem dX7_text_0 : decode cX7_text 0 = .ok (.aload_n 0, 1) := by decide +kernel
theorem dX7_text_1 : decode cX7_text 1 = .ok (.aload_n 0, 1) := by decide +kernel
theorem dX7_text_2 : decode cX7_text 2 = .ok (.getfield 15, 3) := by decide +kernel
theorem dX7_text_5 : decode cX7_text 5 = .ok (.iload_n 1, 1) := by decide +kernel
theorem dX7_text_6 : decode cX7_text 6 = .ok (.iload_n 2, 1) := by decide +kernel
theorem dX7_text_7 : decode cX7_text 7 = .ok (.bipush 32, 2) := by decide +kernel
theorem dX7_text_9 : decode cX7_text 9 = .ok (.invokevirtual 64, 3) := by decide +kernel
theorem dX7_text_12 : decode cX7_text 12 = .ok (.ireturn, 1) := by decide +kernel
theorem dX7_put_0 : decode cX7_put 0 = .ok (.aload_n 0, 1) := by decide +kernel
theorem dX7_put_1 : decode cX7_put 1 = .ok (.aload_n 0, 1) := by decide +kernel
theorem dX7_put_2 : decode cX7_put 2 = .ok (.getfield 15, 3) := by decide +kernel
theorem dX7_put_5 : decode cX7_put 5 = .ok (.iload_n 1, 1) := by decide +kernel
theorem dX7_put_6 : decode cX7_put 6 = .ok (.iload_n 2, 1) := by decide +kernel
theorem dX7_put_7 : decode cX7_put 7 = .ok (.invokevirtual 68, 3) := by decide +kernel
theorem dX7_put_10 : decode cX7_put 10 = .ok (.istore 4, 2) := by decide +kernel
theorem dX7_put_12 : decode cX7_put 12 = .ok (.iload 4, 2) := by decide +kernel
theorem dX7_put_14 : decode cX7_put 14 = .ok (.ifCond .eq 6, 3) := by decide +kernel
theorem dX7_put_17 : decode cX7_put 17 = .ok (.iload 4, 2) := by decide +kernel
theorem dX7_put_19 : decode cX7_put 19 = .ok (.ireturn, 1) := by decide +kernel
theorem dX7_put_20 : decode cX7_put 20 = .ok (.aload_n 0, 1) := by decide +kernel
theorem dX7_put_21 : decode cX7_put 21 = .ok (.getfield 15, 3) := by decide +kernel
theorem dX7_put_24 : decode cX7_put 24 = .ok (.iload_n 1, 1) := by decide +kernel
theorem dX7_put_25 : decode cX7_put 25 = .ok (.aaload, 1) := by decide +kernel
theorem dX7_put_26 : decode cX7_put 26 = .ok (.getfield 72, 3) := by decide +kernel
theorem dX7_put_29 : decode cX7_put 29 = .ok (.iload_n 2, 1) := by decide +kernel
theorem dX7_put_30 : decode cX7_put 30 = .ok (.iaload, 1) := by decide +kernel
theorem dX7_put_31 : decode cX7_put 31 = .ok (.istore 5, 2) := by decide +kernel
theorem dX7_put_33 : decode cX7_put 33 = .ok (.aload_n 0, 1) := by decide +kernel
theorem dX7_put_34 : decode cX7_put 34 = .ok (.getfield 15, 3) := by decide +kernel
theorem dX7_put_37 : decode cX7_put 37 = .ok (.iload_n 1, 1) := by decide +kernel
theorem dX7_put_38 : decode cX7_put 38 = .ok (.aaload, 1) := by decide +kernel
theorem dX7_put_39 : decode cX7_put 39 = .ok (.getfield 72, 3) := by decide +kernel
theorem dX7_put_42 : decode cX7_put 42 = .ok (.iload_n 2, 1) := by decide +kernel
theorem dX7_put_43 : decode cX7_put 43 = .ok (.iload_n 3, 1) := by decide +kernel
theorem dX7_put_44 : decode cX7_put 44 = .ok (.i2b, 1) := by decide +kernel
theorem dX7_put_45 : decode cX7_put 45 = .ok (.iastore, 1) := by decide +kernel
theorem dX7_put_46 : decode cX7_put 46 = .ok (.sipush 1000, 3) := by decide +kernel
theorem dX7_put_49 : decode cX7_put 49 = .ok (.iload 5, 2) := by decide +kernel
theorem dX7_put_51 : decode cX7_put 51 = .ok (.iadd, 1) := by decide +kernel
theorem dX7_put_52 : decode cX7_put 52 = .ok (.ireturn, 1) := by decide +kernel
theorem dX7_fault_0 : decode cX7_fault 0 = .ok (.aload_n 0, 1) := by decide +kernel
theorem dX7_fault_1 : decode cX7_fault 1 = .ok (.aload_n 0, 1) := by decide +kernel
theorem dX7_fault_2 : decode cX7_fault 2 = .ok (.getfield 15, 3) := by decide +kernel
theorem dX7_fault_5 : decode cX7_fault 5 = .ok (.iload_n 1, 1) := by decide +kernel
theorem dX7_fault_6 : decode cX7_fault 6 = .ok (.invokevirtual 79, 3) := by decide +kernel
theorem dX7_fault_9 : decode cX7_fault 9 = .ok (.istore_n 2, 1) := by decide +kernel
theorem dX7_fault_10 : decode cX7_fault 10 = .ok (.iload_n 2, 1) := by decide +kernel
theorem dX7_fault_11 : decode cX7_fault 11 = .ok (.ifCond .eq 5, 3) := by decide +kernel
theorem dX7_fault_14 : decode cX7_fault 14 = .ok (.iload_n 2, 1) := by decide +kernel
theorem dX7_fault_15 : decode cX7_fault 15 = .ok (.ireturn, 1) := by decide +kernel
theorem dX7_fault_16 : decode cX7_fault 16 = .ok (.aload_n 0, 1) := by decide +kernel
theorem dX7_fault_17 : decode cX7_fault 17 = .ok (.getfield 21, 3) := by decide +kernel
theorem dX7_fault_20 : decode cX7_fault 20 = .ok (.aload_n 0, 1) := by decide +kernel
theorem dX7_fault_21 : decode cX7_fault 21 = .ok (.getfield 15, 3) := by decide +kernel
theorem dX7_fault_24 : decode cX7_fault 24 = .ok (.iload_n 1, 1) := by decide +kernel
theorem dX7_fault_25 : decode cX7_fault 25 = .ok (.aaload, 1) := by decide +kernel
theorem dX7_fault_26 : decode cX7_fault 26 = .ok (.invokevirtual 112, 3) := by decide +kernel
theorem dX7_fault_29 : decode cX7_fault 29 = .ok (.ireturn, 1) := by decide +kernel
theorem dX7_court_0 : decode cX7_court 0 = .ok (.aload_n 0, 1) := by decide +kernel
theorem dX7_court_1 : decode cX7_court 1 = .ok (.aload_n 0, 1) := by decide +kernel
theorem dX7_court_2 : decode cX7_court 2 = .ok (.getfield 15, 3) := by decide +kernel
theorem dX7_court_5 : decode cX7_court 5 = .ok (.iload_n 1, 1) := by decide +kernel
theorem dX7_court_6 : decode cX7_court 6 = .ok (.invokevirtual 79, 3) := by decide +kernel
theorem dX7_court_9 : decode cX7_court 9 = .ok (.istore_n 2, 1) := by decide +kernel
theorem dX7_court_10 : decode cX7_court 10 = .ok (.iload_n 2, 1) := by decide +kernel
theorem dX7_court_11 : decode cX7_court 11 = .ok (.ifCond .eq 5, 3) := by decide +kernel
theorem dX7_court_14 : decode cX7_court 14 = .ok (.iload_n 2, 1) := by decide +kernel
theorem dX7_court_15 : decode cX7_court 15 = .ok (.ireturn, 1) := by decide +kernel
theorem dX7_court_16 : decode cX7_court 16 = .ok (.aload_n 0, 1) := by decide +kernel
theorem dX7_court_17 : decode cX7_court 17 = .ok (.getfield 21, 3) := by decide +kernel
theorem dX7_court_20 : decode cX7_court 20 = .ok (.aload_n 0, 1) := by decide +kernel
theorem dX7_court_21 : decode cX7_court 21 = .ok (.getfield 15, 3) := by decide +kernel
theorem dX7_court_24 : decode cX7_court 24 = .ok (.iload_n 1, 1) := by decide +kernel
theorem dX7_court_25 : decode cX7_court 25 = .ok (.aaload, 1) := by decide +kernel
theorem dX7_court_26 : decode cX7_court 26 = .ok (.invokevirtual 112, 3) := by decide +kernel
theorem dX7_court_29 : decode cX7_court 29 = .ok (.bipush (-9), 2) := by decide +kernel
theorem dX7_court_31 : decode cX7_court 31 = .ok (.if_icmp .eq 6, 3) := by decide +kernel
theorem dX7_court_34 : decode cX7_court 34 = .ok (.bipush (-4), 2) := by decide +kernel
theorem dX7_court_36 : decode cX7_court 36 = .ok (.ireturn, 1) := by decide +kernel
theorem dX7_court_37 : decode cX7_court 37 = .ok (.aload_n 0, 1) := by decide +kernel
theorem dX7_court_38 : decode cX7_court 38 = .ok (.getfield 28, 3) := by decide +kernel
theorem dX7_court_41 : decode cX7_court 41 = .ok (.aload_n 0, 1) := by decide +kernel
theorem dX7_court_42 : decode cX7_court 42 = .ok (.getfield 21, 3) := by decide +kernel
theorem dX7_court_45 : decode cX7_court 45 = .ok (.invokevirtual 116, 3) := by decide +kernel
theorem dX7_court_48 : decode cX7_court 48 = .ok (.iconst 0, 1) := by decide +kernel
theorem dX7_court_49 : decode cX7_court 49 = .ok (.istore_n 3, 1) := by decide +kernel
theorem dX7_court_50 : decode cX7_court 50 = .ok (.iload_n 3, 1) := by decide +kernel
theorem dX7_court_51 : decode cX7_court 51 = .ok (.iconst 3, 1) := by decide +kernel
theorem dX7_court_52 : decode cX7_court 52 = .ok (.if_icmp .ge 19, 3) := by decide +kernel
theorem dX7_court_55 : decode cX7_court 55 = .ok (.aload_n 0, 1) := by decide +kernel
theorem dX7_court_56 : decode cX7_court 56 = .ok (.getfield 34, 3) := by decide +kernel
theorem dX7_court_59 : decode cX7_court 59 = .ok (.iload_n 3, 1) := by decide +kernel
theorem dX7_court_60 : decode cX7_court 60 = .ok (.aaload, 1) := by decide +kernel
theorem dX7_court_61 : decode cX7_court 61 = .ok (.iconst (-1), 1) := by decide +kernel
theorem dX7_court_62 : decode cX7_court 62 = .ok (.putfield 120, 3) := by decide +kernel
theorem dX7_court_65 : decode cX7_court 65 = .ok (.iinc 3 1, 3) := by decide +kernel
theorem dX7_court_68 : decode cX7_court 68 = .ok (.goto (-18), 3) := by decide +kernel
theorem dX7_court_71 : decode cX7_court 71 = .ok (.aload_n 0, 1) := by decide +kernel
theorem dX7_court_72 : decode cX7_court 72 = .ok (.getfield 28, 3) := by decide +kernel
theorem dX7_court_75 : decode cX7_court 75 = .ok (.getfield 121, 3) := by decide +kernel
theorem dX7_court_78 : decode cX7_court 78 = .ok (.ireturn, 1) := by decide +kernel
theorem dX7_man_0 : decode cX7_man 0 = .ok (.aload_n 0, 1) := by decide +kernel
theorem dX7_man_1 : decode cX7_man 1 = .ok (.iload_n 1, 1) := by decide +kernel
theorem dX7_man_2 : decode cX7_man 2 = .ok (.invokevirtual 122, 3) := by decide +kernel
theorem dX7_man_5 : decode cX7_man 5 = .ok (.ifCond .eq 13, 3) := by decide +kernel
theorem dX7_man_8 : decode cX7_man 8 = .ok (.iload_n 2, 1) := by decide +kernel
theorem dX7_man_9 : decode cX7_man 9 = .ok (.ifCond .lt 9, 3) := by decide +kernel
theorem dX7_man_12 : decode cX7_man 12 = .ok (.iload_n 2, 1) := by decide +kernel
theorem dX7_man_13 : decode cX7_man 13 = .ok (.bipush 9, 2) := by decide +kernel
theorem dX7_man_15 : decode cX7_man 15 = .ok (.if_icmp .lt 5, 3) := by decide +kernel
theorem dX7_man_18 : decode cX7_man 18 = .ok (.iconst (-1), 1) := by decide +kernel
theorem dX7_man_19 : decode cX7_man 19 = .ok (.ireturn, 1) := by decide +kernel
theorem dX7_man_20 : decode cX7_man 20 = .ok (.aload_n 0, 1) := by decide +kernel
theorem dX7_man_21 : decode cX7_man 21 = .ok (.aload_n 0, 1) := by decide +kernel
theorem dX7_man_22 : decode cX7_man 22 = .ok (.getfield 28, 3) := by decide +kernel
theorem dX7_man_25 : decode cX7_man 25 = .ok (.aload_n 0, 1) := by decide +kernel
theorem dX7_man_26 : decode cX7_man 26 = .ok (.getfield 28, 3) := by decide +kernel
theorem dX7_man_29 : decode cX7_man 29 = .ok (.getfield 126, 3) := by decide +kernel
theorem dX7_man_32 : decode cX7_man 32 = .ok (.iload_n 1, 1) := by decide +kernel
theorem dX7_man_33 : decode cX7_man 33 = .ok (.aaload, 1) := by decide +kernel
theorem dX7_man_34 : decode cX7_man 34 = .ok (.iload_n 2, 1) := by decide +kernel
theorem dX7_man_35 : decode cX7_man 35 = .ok (.invokevirtual 130, 3) := by decide +kernel
theorem dX7_man_38 : decode cX7_man 38 = .ok (.putfield 75, 3) := by decide +kernel
theorem dX7_man_41 : decode cX7_man 41 = .ok (.iconst 1, 1) := by decide +kernel
theorem dX7_man_42 : decode cX7_man 42 = .ok (.ireturn, 1) := by decide +kernel
theorem dX7_mark_0 : decode cX7_mark 0 = .ok (.aload_n 0, 1) := by decide +kernel
theorem dX7_mark_1 : decode cX7_mark 1 = .ok (.iload_n 1, 1) := by decide +kernel
theorem dX7_mark_2 : decode cX7_mark 2 = .ok (.invokevirtual 122, 3) := by decide +kernel
theorem dX7_mark_5 : decode cX7_mark 5 = .ok (.ifCond .eq 14, 3) := by decide +kernel
theorem dX7_mark_8 : decode cX7_mark 8 = .ok (.iload_n 2, 1) := by decide +kernel
theorem dX7_mark_9 : decode cX7_mark 9 = .ok (.iconst 1, 1) := by decide +kernel
theorem dX7_mark_10 : decode cX7_mark 10 = .ok (.if_icmp .lt 9, 3) := by decide +kernel
theorem dX7_mark_13 : decode cX7_mark 13 = .ok (.iload_n 2, 1) := by decide +kernel
theorem dX7_mark_14 : decode cX7_mark 14 = .ok (.bipush 6, 2) := by decide +kernel
theorem dX7_mark_16 : decode cX7_mark 16 = .ok (.if_icmp .lt 5, 3) := by decide +kernel
theorem dX7_mark_19 : decode cX7_mark 19 = .ok (.iconst (-1), 1) := by decide +kernel
theorem dX7_mark_20 : decode cX7_mark 20 = .ok (.ireturn, 1) := by decide +kernel
theorem dX7_mark_21 : decode cX7_mark 21 = .ok (.aload_n 0, 1) := by decide +kernel
theorem dX7_mark_22 : decode cX7_mark 22 = .ok (.getfield 28, 3) := by decide +kernel
theorem dX7_mark_25 : decode cX7_mark 25 = .ok (.getfield 126, 3) := by decide +kernel
theorem dX7_mark_28 : decode cX7_mark 28 = .ok (.iload_n 1, 1) := by decide +kernel
theorem dX7_mark_29 : decode cX7_mark 29 = .ok (.aaload, 1) := by decide +kernel
theorem dX7_mark_30 : decode cX7_mark 30 = .ok (.astore_n 3, 1) := by decide +kernel
theorem dX7_mark_31 : decode cX7_mark 31 = .ok (.aload_n 3, 1) := by decide +kernel
theorem dX7_mark_32 : decode cX7_mark 32 = .ok (.iload_n 2, 1) := by decide +kernel
theorem dX7_mark_33 : decode cX7_mark 33 = .ok (.invokevirtual 134, 3) := by decide +kernel
theorem dX7_mark_36 : decode cX7_mark 36 = .ok (.ifCond .ne 9, 3) := by decide +kernel
theorem dX7_mark_39 : decode cX7_mark 39 = .ok (.aload_n 0, 1) := by decide +kernel
theorem dX7_mark_40 : decode cX7_mark 40 = .ok (.iconst 3, 1) := by decide +kernel
theorem dX7_mark_41 : decode cX7_mark 41 = .ok (.invokevirtual 90, 3) := by decide +kernel
theorem dX7_mark_44 : decode cX7_mark 44 = .ok (.ireturn, 1) := by decide +kernel
theorem dX7_mark_45 : decode cX7_mark 45 = .ok (.iload_n 2, 1) := by decide +kernel
theorem dX7_mark_46 : decode cX7_mark 46 = .ok (.tableswitch 79 1 4 #[30, 39, 56, 71], 30) := by decide +kernel
theorem dX7_mark_76 : decode cX7_mark 76 = .ok (.aload_n 0, 1) := by decide +kernel
theorem dX7_mark_77 : decode cX7_mark 77 = .ok (.getfield 28, 3) := by decide +kernel
theorem dX7_mark_80 : decode cX7_mark 80 = .ok (.aload_n 3, 1) := by decide +kernel
theorem dX7_mark_81 : decode cX7_mark 81 = .ok (.invokevirtual 139, 3) := by decide +kernel
theorem dX7_mark_84 : decode cX7_mark 84 = .ok (.ireturn, 1) := by decide +kernel
theorem dX7_mark_85 : decode cX7_mark 85 = .ok (.aload_n 0, 1) := by decide +kernel
theorem dX7_mark_86 : decode cX7_mark 86 = .ok (.getfield 28, 3) := by decide +kernel
theorem dX7_mark_89 : decode cX7_mark 89 = .ok (.aload_n 3, 1) := by decide +kernel
theorem dX7_mark_90 : decode cX7_mark 90 = .ok (.invokevirtual 143, 3) := by decide +kernel
theorem dX7_mark_93 : decode cX7_mark 93 = .ok (.invokevirtual 147, 3) := by decide +kernel
theorem dX7_mark_96 : decode cX7_mark 96 = .ok (.aload_n 3, 1) := by decide +kernel
theorem dX7_mark_97 : decode cX7_mark 97 = .ok (.invokevirtual 147, 3) := by decide +kernel
theorem dX7_mark_100 : decode cX7_mark 100 = .ok (.isub, 1) := by decide +kernel
theorem dX7_mark_101 : decode cX7_mark 101 = .ok (.ireturn, 1) := by decide +kernel
theorem dX7_mark_102 : decode cX7_mark 102 = .ok (.iconst 0, 1) := by decide +kernel
theorem dX7_mark_103 : decode cX7_mark 103 = .ok (.aload_n 0, 1) := by decide +kernel
theorem dX7_mark_104 : decode cX7_mark 104 = .ok (.getfield 28, 3) := by decide +kernel
theorem dX7_mark_107 : decode cX7_mark 107 = .ok (.getfield 151, 3) := by decide +kernel
theorem dX7_mark_110 : decode cX7_mark 110 = .ok (.bipush 10, 2) := by decide +kernel
theorem dX7_mark_112 : decode cX7_mark 112 = .ok (.isub, 1) := by decide +kernel
theorem dX7_mark_113 : decode cX7_mark 113 = .ok (.invokestatic 154, 3) := by decide +kernel
theorem dX7_mark_116 : decode cX7_mark 116 = .ok (.ireturn, 1) := by decide +kernel
theorem dX7_mark_117 : decode cX7_mark 117 = .ok (.aload_n 0, 1) := by decide +kernel
theorem dX7_mark_118 : decode cX7_mark 118 = .ok (.getfield 28, 3) := by decide +kernel
theorem dX7_mark_121 : decode cX7_mark 121 = .ok (.invokevirtual 160, 3) := by decide +kernel
theorem dX7_mark_124 : decode cX7_mark 124 = .ok (.ireturn, 1) := by decide +kernel
theorem dX7_mark_125 : decode cX7_mark 125 = .ok (.aload_n 0, 1) := by decide +kernel
theorem dX7_mark_126 : decode cX7_mark 126 = .ok (.getfield 28, 3) := by decide +kernel
theorem dX7_mark_129 : decode cX7_mark 129 = .ok (.aload_n 0, 1) := by decide +kernel
theorem dX7_mark_130 : decode cX7_mark 130 = .ok (.getfield 28, 3) := by decide +kernel
theorem dX7_mark_133 : decode cX7_mark 133 = .ok (.aload_n 3, 1) := by decide +kernel
theorem dX7_mark_134 : decode cX7_mark 134 = .ok (.invokevirtual 143, 3) := by decide +kernel
theorem dX7_mark_137 : decode cX7_mark 137 = .ok (.aload_n 0, 1) := by decide +kernel
theorem dX7_mark_138 : decode cX7_mark 138 = .ok (.getfield 28, 3) := by decide +kernel
theorem dX7_mark_141 : decode cX7_mark 141 = .ok (.getfield 151, 3) := by decide +kernel
theorem dX7_mark_144 : decode cX7_mark 144 = .ok (.invokevirtual 163, 3) := by decide +kernel
theorem dX7_mark_147 : decode cX7_mark 147 = .ok (.aload_n 0, 1) := by decide +kernel
theorem dX7_mark_148 : decode cX7_mark 148 = .ok (.getfield 28, 3) := by decide +kernel
theorem dX7_mark_151 : decode cX7_mark 151 = .ok (.aload_n 3, 1) := by decide +kernel
theorem dX7_mark_152 : decode cX7_mark 152 = .ok (.aload_n 0, 1) := by decide +kernel
theorem dX7_mark_153 : decode cX7_mark 153 = .ok (.getfield 28, 3) := by decide +kernel
theorem dX7_mark_156 : decode cX7_mark 156 = .ok (.getfield 151, 3) := by decide +kernel
end
section
theorem dX7_mark_159 : decode cX7_mark 159 = .ok (.invokevirtual 163, 3) := by decide +kernel
theorem dX7_mark_162 : decode cX7_mark 162 = .ok (.isub, 1) := by decide +kernel
theorem dX7_mark_163 : decode cX7_mark 163 = .ok (.ireturn, 1) := by decide +kernel
theorem dX7_heat_0 : decode cX7_heat 0 = .ok (.iload_n 1, 1) := by decide +kernel
theorem dX7_heat_1 : decode cX7_heat 1 = .ok (.ifCond .eq 14, 3) := by decide +kernel
theorem dX7_heat_4 : decode cX7_heat 4 = .ok (.iload_n 1, 1) := by decide +kernel
theorem dX7_heat_5 : decode cX7_heat 5 = .ok (.bipush (-5), 2) := by decide +kernel
theorem dX7_heat_7 : decode cX7_heat 7 = .ok (.if_icmp .lt 8, 3) := by decide +kernel
theorem dX7_heat_10 : decode cX7_heat 10 = .ok (.iload_n 1, 1) := by decide +kernel
theorem dX7_heat_11 : decode cX7_heat 11 = .ok (.iconst 5, 1) := by decide +kernel
theorem dX7_heat_12 : decode cX7_heat 12 = .ok (.if_icmp .le 5, 3) := by decide +kernel
theorem dX7_heat_15 : decode cX7_heat 15 = .ok (.iconst (-1), 1) := by decide +kernel
theorem dX7_heat_16 : decode cX7_heat 16 = .ok (.ireturn, 1) := by decide +kernel
theorem dX7_heat_17 : decode cX7_heat 17 = .ok (.aload_n 0, 1) := by decide +kernel
theorem dX7_heat_18 : decode cX7_heat 18 = .ok (.getfield 28, 3) := by decide +kernel
theorem dX7_heat_21 : decode cX7_heat 21 = .ok (.getfield 121, 3) := by decide +kernel
theorem dX7_heat_24 : decode cX7_heat 24 = .ok (.ifCond .ne 6, 3) := by decide +kernel
theorem dX7_heat_27 : decode cX7_heat 27 = .ok (.bipush (-4), 2) := by decide +kernel
theorem dX7_heat_29 : decode cX7_heat 29 = .ok (.ireturn, 1) := by decide +kernel
theorem dX7_heat_30 : decode cX7_heat 30 = .ok (.aload_n 0, 1) := by decide +kernel
theorem dX7_heat_31 : decode cX7_heat 31 = .ok (.getfield 28, 3) := by decide +kernel
theorem dX7_heat_34 : decode cX7_heat 34 = .ok (.getfield 166, 3) := by decide +kernel
theorem dX7_heat_37 : decode cX7_heat 37 = .ok (.iconst 1, 1) := by decide +kernel
theorem dX7_heat_38 : decode cX7_heat 38 = .ok (.invokevirtual 170, 3) := by decide +kernel
theorem dX7_heat_41 : decode cX7_heat 41 = .ok (.ifCond .ne 6, 3) := by decide +kernel
theorem dX7_heat_44 : decode cX7_heat 44 = .ok (.bipush (-2), 2) := by decide +kernel
theorem dX7_heat_46 : decode cX7_heat 46 = .ok (.ireturn, 1) := by decide +kernel
theorem dX7_heat_47 : decode cX7_heat 47 = .ok (.aload_n 0, 1) := by decide +kernel
theorem dX7_heat_48 : decode cX7_heat 48 = .ok (.getfield 28, 3) := by decide +kernel
theorem dX7_heat_51 : decode cX7_heat 51 = .ok (.iconst 0, 1) := by decide +kernel
theorem dX7_heat_52 : decode cX7_heat 52 = .ok (.iload_n 1, 1) := by decide +kernel
theorem dX7_heat_53 : decode cX7_heat 53 = .ok (.invokevirtual 173, 3) := by decide +kernel
theorem dX7_heat_56 : decode cX7_heat 56 = .ok (.aload_n 0, 1) := by decide +kernel
theorem dX7_heat_57 : decode cX7_heat 57 = .ok (.getfield 28, 3) := by decide +kernel
theorem dX7_heat_60 : decode cX7_heat 60 = .ok (.getfield 151, 3) := by decide +kernel
theorem dX7_heat_63 : decode cX7_heat 63 = .ok (.ireturn, 1) := by decide +kernel
theorem dX7_salve_0 : decode cX7_salve 0 = .ok (.aload_n 0, 1) := by decide +kernel
theorem dX7_salve_1 : decode cX7_salve 1 = .ok (.iload_n 1, 1) := by decide +kernel
theorem dX7_salve_2 : decode cX7_salve 2 = .ok (.invokevirtual 122, 3) := by decide +kernel
theorem dX7_salve_5 : decode cX7_salve 5 = .ok (.ifCond .ne 5, 3) := by decide +kernel
theorem dX7_salve_8 : decode cX7_salve 8 = .ok (.iconst (-1), 1) := by decide +kernel
theorem dX7_salve_9 : decode cX7_salve 9 = .ok (.ireturn, 1) := by decide +kernel
theorem dX7_salve_10 : decode cX7_salve 10 = .ok (.aload_n 0, 1) := by decide +kernel
theorem dX7_salve_11 : decode cX7_salve 11 = .ok (.getfield 28, 3) := by decide +kernel
theorem dX7_salve_14 : decode cX7_salve 14 = .ok (.getfield 126, 3) := by decide +kernel
theorem dX7_salve_17 : decode cX7_salve 17 = .ok (.iload_n 1, 1) := by decide +kernel
theorem dX7_salve_18 : decode cX7_salve 18 = .ok (.aaload, 1) := by decide +kernel
theorem dX7_salve_19 : decode cX7_salve 19 = .ok (.astore_n 2, 1) := by decide +kernel
theorem dX7_salve_20 : decode cX7_salve 20 = .ok (.aload_n 2, 1) := by decide +kernel
theorem dX7_salve_21 : decode cX7_salve 21 = .ok (.getfield 177, 3) := by decide +kernel
theorem dX7_salve_24 : decode cX7_salve 24 = .ok (.iconst 3, 1) := by decide +kernel
theorem dX7_salve_25 : decode cX7_salve 25 = .ok (.if_icmp .ge 10, 3) := by decide +kernel
theorem dX7_salve_28 : decode cX7_salve 28 = .ok (.aload_n 2, 1) := by decide +kernel
theorem dX7_salve_29 : decode cX7_salve 29 = .ok (.invokevirtual 180, 3) := by decide +kernel
theorem dX7_salve_32 : decode cX7_salve 32 = .ok (.ifCond .eq 6, 3) := by decide +kernel
theorem dX7_salve_35 : decode cX7_salve 35 = .ok (.bipush (-4), 2) := by decide +kernel
theorem dX7_salve_37 : decode cX7_salve 37 = .ok (.ireturn, 1) := by decide +kernel
theorem dX7_salve_38 : decode cX7_salve 38 = .ok (.aload_n 0, 1) := by decide +kernel
theorem dX7_salve_39 : decode cX7_salve 39 = .ok (.getfield 28, 3) := by decide +kernel
theorem dX7_salve_42 : decode cX7_salve 42 = .ok (.getfield 166, 3) := by decide +kernel
theorem dX7_salve_45 : decode cX7_salve 45 = .ok (.iconst 1, 1) := by decide +kernel
theorem dX7_salve_46 : decode cX7_salve 46 = .ok (.invokevirtual 170, 3) := by decide +kernel
theorem dX7_salve_49 : decode cX7_salve 49 = .ok (.ifCond .ne 6, 3) := by decide +kernel
theorem dX7_salve_52 : decode cX7_salve 52 = .ok (.bipush (-2), 2) := by decide +kernel
theorem dX7_salve_54 : decode cX7_salve 54 = .ok (.ireturn, 1) := by decide +kernel
theorem dX7_salve_55 : decode cX7_salve 55 = .ok (.aload_n 0, 1) := by decide +kernel
theorem dX7_salve_56 : decode cX7_salve 56 = .ok (.getfield 28, 3) := by decide +kernel
theorem dX7_salve_59 : decode cX7_salve 59 = .ok (.iconst 1, 1) := by decide +kernel
theorem dX7_salve_60 : decode cX7_salve 60 = .ok (.iload_n 1, 1) := by decide +kernel
theorem dX7_salve_61 : decode cX7_salve 61 = .ok (.invokevirtual 173, 3) := by decide +kernel
theorem dX7_salve_64 : decode cX7_salve 64 = .ok (.aload_n 2, 1) := by decide +kernel
theorem dX7_salve_65 : decode cX7_salve 65 = .ok (.getfield 177, 3) := by decide +kernel
theorem dX7_salve_68 : decode cX7_salve 68 = .ok (.ireturn, 1) := by decide +kernel
theorem dX7_trial_0 : decode cX7_trial 0 = .ok (.aload_n 0, 1) := by decide +kernel
theorem dX7_trial_1 : decode cX7_trial 1 = .ok (.iload_n 1, 1) := by decide +kernel
theorem dX7_trial_2 : decode cX7_trial 2 = .ok (.invokevirtual 122, 3) := by decide +kernel
theorem dX7_trial_5 : decode cX7_trial 5 = .ok (.ifCond .ne 5, 3) := by decide +kernel
theorem dX7_trial_8 : decode cX7_trial 8 = .ok (.iconst (-1), 1) := by decide +kernel
theorem dX7_trial_9 : decode cX7_trial 9 = .ok (.ireturn, 1) := by decide +kernel
theorem dX7_trial_10 : decode cX7_trial 10 = .ok (.aload_n 0, 1) := by decide +kernel
theorem dX7_trial_11 : decode cX7_trial 11 = .ok (.getfield 28, 3) := by decide +kernel
theorem dX7_trial_14 : decode cX7_trial 14 = .ok (.getfield 126, 3) := by decide +kernel
theorem dX7_trial_17 : decode cX7_trial 17 = .ok (.iload_n 1, 1) := by decide +kernel
theorem dX7_trial_18 : decode cX7_trial 18 = .ok (.aaload, 1) := by decide +kernel
theorem dX7_trial_19 : decode cX7_trial 19 = .ok (.astore_n 2, 1) := by decide +kernel
theorem dX7_trial_20 : decode cX7_trial 20 = .ok (.aload_n 2, 1) := by decide +kernel
theorem dX7_trial_21 : decode cX7_trial 21 = .ok (.invokevirtual 180, 3) := by decide +kernel
theorem dX7_trial_24 : decode cX7_trial 24 = .ok (.ifCond .eq 6, 3) := by decide +kernel
theorem dX7_trial_27 : decode cX7_trial 27 = .ok (.bipush (-4), 2) := by decide +kernel
theorem dX7_trial_29 : decode cX7_trial 29 = .ok (.ireturn, 1) := by decide +kernel
theorem dX7_trial_30 : decode cX7_trial 30 = .ok (.aload_n 0, 1) := by decide +kernel
theorem dX7_trial_31 : decode cX7_trial 31 = .ok (.getfield 28, 3) := by decide +kernel
theorem dX7_trial_34 : decode cX7_trial 34 = .ok (.getfield 166, 3) := by decide +kernel
theorem dX7_trial_37 : decode cX7_trial 37 = .ok (.iconst 1, 1) := by decide +kernel
theorem dX7_trial_38 : decode cX7_trial 38 = .ok (.invokevirtual 170, 3) := by decide +kernel
theorem dX7_trial_41 : decode cX7_trial 41 = .ok (.ifCond .ne 6, 3) := by decide +kernel
theorem dX7_trial_44 : decode cX7_trial 44 = .ok (.bipush (-2), 2) := by decide +kernel
theorem dX7_trial_46 : decode cX7_trial 46 = .ok (.ireturn, 1) := by decide +kernel
theorem dX7_trial_47 : decode cX7_trial 47 = .ok (.aload_n 0, 1) := by decide +kernel
theorem dX7_trial_48 : decode cX7_trial 48 = .ok (.getfield 28, 3) := by decide +kernel
theorem dX7_trial_51 : decode cX7_trial 51 = .ok (.iconst 2, 1) := by decide +kernel
theorem dX7_trial_52 : decode cX7_trial 52 = .ok (.iload_n 1, 1) := by decide +kernel
theorem dX7_trial_53 : decode cX7_trial 53 = .ok (.invokevirtual 173, 3) := by decide +kernel
theorem dX7_trial_56 : decode cX7_trial 56 = .ok (.aload_n 0, 1) := by decide +kernel
theorem dX7_trial_57 : decode cX7_trial 57 = .ok (.aload_n 2, 1) := by decide +kernel
theorem dX7_trial_58 : decode cX7_trial 58 = .ok (.getfield 183, 3) := by decide +kernel
theorem dX7_trial_61 : decode cX7_trial 61 = .ok (.ifCond .eq 7, 3) := by decide +kernel
theorem dX7_trial_64 : decode cX7_trial 64 = .ok (.iconst 1, 1) := by decide +kernel
theorem dX7_trial_65 : decode cX7_trial 65 = .ok (.goto 4, 3) := by decide +kernel
theorem dX7_trial_68 : decode cX7_trial 68 = .ok (.iconst 0, 1) := by decide +kernel
theorem dX7_trial_69 : decode cX7_trial 69 = .ok (.putfield 75, 3) := by decide +kernel
theorem dX7_trial_72 : decode cX7_trial 72 = .ok (.aload_n 2, 1) := by decide +kernel
theorem dX7_trial_73 : decode cX7_trial 73 = .ok (.getfield 187, 3) := by decide +kernel
theorem dX7_trial_76 : decode cX7_trial 76 = .ok (.ireturn, 1) := by decide +kernel
theorem dX7_undo_0 : decode cX7_undo 0 = .ok (.iload_n 1, 1) := by decide +kernel
theorem dX7_undo_1 : decode cX7_undo 1 = .ok (.ifCond .lt 17, 3) := by decide +kernel
theorem dX7_undo_4 : decode cX7_undo 4 = .ok (.iload_n 1, 1) := by decide +kernel
theorem dX7_undo_5 : decode cX7_undo 5 = .ok (.aload_n 0, 1) := by decide +kernel
theorem dX7_undo_6 : decode cX7_undo 6 = .ok (.getfield 28, 3) := by decide +kernel
theorem dX7_undo_9 : decode cX7_undo 9 = .ok (.getfield 166, 3) := by decide +kernel
theorem dX7_undo_12 : decode cX7_undo 12 = .ok (.getfield 120, 3) := by decide +kernel
theorem dX7_undo_15 : decode cX7_undo 15 = .ok (.if_icmp .le 5, 3) := by decide +kernel
theorem dX7_undo_18 : decode cX7_undo 18 = .ok (.iconst (-1), 1) := by decide +kernel
theorem dX7_undo_19 : decode cX7_undo 19 = .ok (.ireturn, 1) := by decide +kernel
theorem dX7_undo_20 : decode cX7_undo 20 = .ok (.aload_n 0, 1) := by decide +kernel
theorem dX7_undo_21 : decode cX7_undo 21 = .ok (.getfield 28, 3) := by decide +kernel
theorem dX7_undo_24 : decode cX7_undo 24 = .ok (.getfield 166, 3) := by decide +kernel
theorem dX7_undo_27 : decode cX7_undo 27 = .ok (.getfield 120, 3) := by decide +kernel
theorem dX7_undo_30 : decode cX7_undo 30 = .ok (.iload_n 1, 1) := by decide +kernel
theorem dX7_undo_31 : decode cX7_undo 31 = .ok (.isub, 1) := by decide +kernel
theorem dX7_undo_32 : decode cX7_undo 32 = .ok (.istore_n 2, 1) := by decide +kernel
theorem dX7_undo_33 : decode cX7_undo 33 = .ok (.aload_n 0, 1) := by decide +kernel
theorem dX7_undo_34 : decode cX7_undo 34 = .ok (.getfield 28, 3) := by decide +kernel
theorem dX7_undo_37 : decode cX7_undo 37 = .ok (.getfield 166, 3) := by decide +kernel
theorem dX7_undo_40 : decode cX7_undo 40 = .ok (.iload_n 1, 1) := by decide +kernel
theorem dX7_undo_41 : decode cX7_undo 41 = .ok (.putfield 120, 3) := by decide +kernel
theorem dX7_undo_44 : decode cX7_undo 44 = .ok (.aload_n 0, 1) := by decide +kernel
theorem dX7_undo_45 : decode cX7_undo 45 = .ok (.getfield 28, 3) := by decide +kernel
theorem dX7_undo_48 : decode cX7_undo 48 = .ok (.invokevirtual 190, 3) := by decide +kernel
theorem dX7_undo_51 : decode cX7_undo 51 = .ok (.iload_n 2, 1) := by decide +kernel
theorem dX7_undo_52 : decode cX7_undo 52 = .ok (.ireturn, 1) := by decide +kernel
theorem dX7_keep_0 : decode cX7_keep 0 = .ok (.iload_n 1, 1) := by decide +kernel
theorem dX7_keep_1 : decode cX7_keep 1 = .ok (.invokestatic 193, 3) := by decide +kernel
theorem dX7_keep_4 : decode cX7_keep 4 = .ok (.ifCond .ne 5, 3) := by decide +kernel
theorem dX7_keep_7 : decode cX7_keep 7 = .ok (.iconst (-1), 1) := by decide +kernel
theorem dX7_keep_8 : decode cX7_keep 8 = .ok (.ireturn, 1) := by decide +kernel
theorem dX7_keep_9 : decode cX7_keep 9 = .ok (.aload_n 0, 1) := by decide +kernel
theorem dX7_keep_10 : decode cX7_keep 10 = .ok (.getfield 28, 3) := by decide +kernel
theorem dX7_keep_13 : decode cX7_keep 13 = .ok (.getfield 121, 3) := by decide +kernel
theorem dX7_keep_16 : decode cX7_keep 16 = .ok (.ifCond .ne 6, 3) := by decide +kernel
theorem dX7_keep_19 : decode cX7_keep 19 = .ok (.bipush (-4), 2) := by decide +kernel
theorem dX7_keep_21 : decode cX7_keep 21 = .ok (.ireturn, 1) := by decide +kernel
theorem dX7_keep_22 : decode cX7_keep 22 = .ok (.aload_n 0, 1) := by decide +kernel
theorem dX7_keep_23 : decode cX7_keep 23 = .ok (.getfield 34, 3) := by decide +kernel
theorem dX7_keep_26 : decode cX7_keep 26 = .ok (.iload_n 1, 1) := by decide +kernel
theorem dX7_keep_27 : decode cX7_keep 27 = .ok (.aaload, 1) := by decide +kernel
theorem dX7_keep_28 : decode cX7_keep 28 = .ok (.aload_n 0, 1) := by decide +kernel
theorem dX7_keep_29 : decode cX7_keep 29 = .ok (.getfield 28, 3) := by decide +kernel
theorem dX7_keep_32 : decode cX7_keep 32 = .ok (.getfield 166, 3) := by decide +kernel
theorem dX7_keep_35 : decode cX7_keep 35 = .ok (.invokevirtual 196, 3) := by decide +kernel
theorem dX7_keep_38 : decode cX7_keep 38 = .ok (.aload_n 0, 1) := by decide +kernel
theorem dX7_keep_39 : decode cX7_keep 39 = .ok (.getfield 28, 3) := by decide +kernel
theorem dX7_keep_42 : decode cX7_keep 42 = .ok (.getfield 166, 3) := by decide +kernel
theorem dX7_keep_45 : decode cX7_keep 45 = .ok (.getfield 120, 3) := by decide +kernel
theorem dX7_keep_48 : decode cX7_keep 48 = .ok (.ireturn, 1) := by decide +kernel
theorem dX7_on_0 : decode cX7_on 0 = .ok (.iload_n 1, 1) := by decide +kernel
theorem dX7_on_1 : decode cX7_on 1 = .ok (.invokestatic 193, 3) := by decide +kernel
theorem dX7_on_4 : decode cX7_on 4 = .ok (.ifCond .ne 5, 3) := by decide +kernel
theorem dX7_on_7 : decode cX7_on 7 = .ok (.iconst (-1), 1) := by decide +kernel
theorem dX7_on_8 : decode cX7_on 8 = .ok (.ireturn, 1) := by decide +kernel
theorem dX7_on_9 : decode cX7_on 9 = .ok (.aload_n 0, 1) := by decide +kernel
theorem dX7_on_10 : decode cX7_on 10 = .ok (.getfield 34, 3) := by decide +kernel
theorem dX7_on_13 : decode cX7_on 13 = .ok (.iload_n 1, 1) := by decide +kernel
theorem dX7_on_14 : decode cX7_on 14 = .ok (.aaload, 1) := by decide +kernel
theorem dX7_on_15 : decode cX7_on 15 = .ok (.getfield 120, 3) := by decide +kernel
theorem dX7_on_18 : decode cX7_on 18 = .ok (.iconst (-1), 1) := by decide +kernel
theorem dX7_on_19 : decode cX7_on 19 = .ok (.if_icmp .ne 9, 3) := by decide +kernel
theorem dX7_on_22 : decode cX7_on 22 = .ok (.aload_n 0, 1) := by decide +kernel
theorem dX7_on_23 : decode cX7_on 23 = .ok (.iconst 1, 1) := by decide +kernel
theorem dX7_on_24 : decode cX7_on 24 = .ok (.invokevirtual 90, 3) := by decide +kernel
theorem dX7_on_27 : decode cX7_on 27 = .ok (.ireturn, 1) := by decide +kernel
theorem dX7_on_28 : decode cX7_on 28 = .ok (.aload_n 0, 1) := by decide +kernel
theorem dX7_on_29 : decode cX7_on 29 = .ok (.getfield 28, 3) := by decide +kernel
theorem dX7_on_32 : decode cX7_on 32 = .ok (.getfield 166, 3) := by decide +kernel
theorem dX7_on_35 : decode cX7_on 35 = .ok (.aload_n 0, 1) := by decide +kernel
theorem dX7_on_36 : decode cX7_on 36 = .ok (.getfield 34, 3) := by decide +kernel
theorem dX7_on_39 : decode cX7_on 39 = .ok (.iload_n 1, 1) := by decide +kernel
theorem dX7_on_40 : decode cX7_on 40 = .ok (.aaload, 1) := by decide +kernel
theorem dX7_on_41 : decode cX7_on 41 = .ok (.invokevirtual 196, 3) := by decide +kernel
theorem dX7_on_44 : decode cX7_on 44 = .ok (.aload_n 0, 1) := by decide +kernel
theorem dX7_on_45 : decode cX7_on 45 = .ok (.getfield 28, 3) := by decide +kernel
theorem dX7_on_48 : decode cX7_on 48 = .ok (.invokevirtual 190, 3) := by decide +kernel
theorem dX7_on_51 : decode cX7_on 51 = .ok (.aload_n 0, 1) := by decide +kernel
theorem dX7_on_52 : decode cX7_on 52 = .ok (.getfield 28, 3) := by decide +kernel
theorem dX7_on_55 : decode cX7_on 55 = .ok (.getfield 166, 3) := by decide +kernel
theorem dX7_on_58 : decode cX7_on 58 = .ok (.getfield 120, 3) := by decide +kernel
theorem dX7_on_61 : decode cX7_on 61 = .ok (.ireturn, 1) := by decide +kernel
theorem dX7_comes_0 : decode cX7_comes 0 = .ok (.aload_n 0, 1) := by decide +kernel
theorem dX7_comes_1 : decode cX7_comes 1 = .ok (.getfield 28, 3) := by decide +kernel
theorem dX7_comes_4 : decode cX7_comes 4 = .ok (.getfield 121, 3) := by decide +kernel
theorem dX7_comes_7 : decode cX7_comes 7 = .ok (.ifCond .ne 6, 3) := by decide +kernel
theorem dX7_comes_10 : decode cX7_comes 10 = .ok (.bipush (-4), 2) := by decide +kernel
theorem dX7_comes_12 : decode cX7_comes 12 = .ok (.ireturn, 1) := by decide +kernel
theorem dX7_comes_13 : decode cX7_comes 13 = .ok (.iconst 0, 1) := by decide +kernel
theorem dX7_comes_14 : decode cX7_comes 14 = .ok (.istore_n 1, 1) := by decide +kernel
theorem dX7_comes_15 : decode cX7_comes 15 = .ok (.iconst 0, 1) := by decide +kernel
theorem dX7_comes_16 : decode cX7_comes 16 = .ok (.istore_n 2, 1) := by decide +kernel
theorem dX7_comes_17 : decode cX7_comes 17 = .ok (.iconst 0, 1) := by decide +kernel
theorem dX7_comes_18 : decode cX7_comes 18 = .ok (.istore_n 3, 1) := by decide +kernel
theorem dX7_comes_19 : decode cX7_comes 19 = .ok (.iload_n 3, 1) := by decide +kernel
theorem dX7_comes_20 : decode cX7_comes 20 = .ok (.aload_n 0, 1) := by decide +kernel
theorem dX7_comes_21 : decode cX7_comes 21 = .ok (.getfield 28, 3) := by decide +kernel
theorem dX7_comes_24 : decode cX7_comes 24 = .ok (.getfield 121, 3) := by decide +kernel
theorem dX7_comes_27 : decode cX7_comes 27 = .ok (.if_icmp .ge 74, 3) := by decide +kernel
theorem dX7_comes_30 : decode cX7_comes 30 = .ok (.aload_n 0, 1) := by decide +kernel
theorem dX7_comes_31 : decode cX7_comes 31 = .ok (.getfield 28, 3) := by decide +kernel
theorem dX7_comes_34 : decode cX7_comes 34 = .ok (.getfield 126, 3) := by decide +kernel
theorem dX7_comes_37 : decode cX7_comes 37 = .ok (.iload_n 3, 1) := by decide +kernel
theorem dX7_comes_38 : decode cX7_comes 38 = .ok (.aaload, 1) := by decide +kernel
theorem dX7_comes_39 : decode cX7_comes 39 = .ok (.astore 4, 2) := by decide +kernel
theorem dX7_comes_41 : decode cX7_comes 41 = .ok (.aload_n 0, 1) := by decide +kernel
theorem dX7_comes_42 : decode cX7_comes 42 = .ok (.getfield 28, 3) := by decide +kernel
theorem dX7_comes_45 : decode cX7_comes 45 = .ok (.aload 4, 2) := by decide +kernel
theorem dX7_comes_47 : decode cX7_comes 47 = .ok (.aload_n 0, 1) := by decide +kernel
theorem dX7_comes_48 : decode cX7_comes 48 = .ok (.getfield 28, 3) := by decide +kernel
theorem dX7_comes_51 : decode cX7_comes 51 = .ok (.getfield 151, 3) := by decide +kernel
theorem dX7_comes_54 : decode cX7_comes 54 = .ok (.invokevirtual 200, 3) := by decide +kernel
theorem dX7_comes_57 : decode cX7_comes 57 = .ok (.istore 5, 2) := by decide +kernel
theorem dX7_comes_59 : decode cX7_comes 59 = .ok (.aload 4, 2) := by decide +kernel
theorem dX7_comes_61 : decode cX7_comes 61 = .ok (.invokevirtual 180, 3) := by decide +kernel
theorem dX7_comes_64 : decode cX7_comes 64 = .ok (.ifCond .ne 31, 3) := by decide +kernel
theorem dX7_comes_67 : decode cX7_comes 67 = .ok (.iload 5, 2) := by decide +kernel
theorem dX7_comes_69 : decode cX7_comes 69 = .ok (.iconst 2, 1) := by decide +kernel
theorem dX7_comes_70 : decode cX7_comes 70 = .ok (.if_icmp .eq 25, 3) := by decide +kernel
theorem dX7_comes_73 : decode cX7_comes 73 = .ok (.iload_n 1, 1) := by decide +kernel
theorem dX7_comes_74 : decode cX7_comes 74 = .ok (.iconst 1, 1) := by decide +kernel
theorem dX7_comes_75 : decode cX7_comes 75 = .ok (.iload_n 3, 1) := by decide +kernel
theorem dX7_comes_76 : decode cX7_comes 76 = .ok (.ishl, 1) := by decide +kernel
theorem dX7_comes_77 : decode cX7_comes 77 = .ok (.ior, 1) := by decide +kernel
theorem dX7_comes_78 : decode cX7_comes 78 = .ok (.istore_n 1, 1) := by decide +kernel
theorem dX7_comes_79 : decode cX7_comes 79 = .ok (.iload_n 2, 1) := by decide +kernel
theorem dX7_comes_80 : decode cX7_comes 80 = .ok (.iload 5, 2) := by decide +kernel
theorem dX7_comes_82 : decode cX7_comes 82 = .ok (.iconst 1, 1) := by decide +kernel
theorem dX7_comes_83 : decode cX7_comes 83 = .ok (.if_icmp .ne 9, 3) := by decide +kernel
theorem dX7_comes_86 : decode cX7_comes 86 = .ok (.iconst 1, 1) := by decide +kernel
theorem dX7_comes_87 : decode cX7_comes 87 = .ok (.iload_n 3, 1) := by decide +kernel
theorem dX7_comes_88 : decode cX7_comes 88 = .ok (.ishl, 1) := by decide +kernel
theorem dX7_comes_89 : decode cX7_comes 89 = .ok (.goto 4, 3) := by decide +kernel
theorem dX7_comes_92 : decode cX7_comes 92 = .ok (.iconst 0, 1) := by decide +kernel
theorem dX7_comes_93 : decode cX7_comes 93 = .ok (.ior, 1) := by decide +kernel
theorem dX7_comes_94 : decode cX7_comes 94 = .ok (.istore_n 2, 1) := by decide +kernel
theorem dX7_comes_95 : decode cX7_comes 95 = .ok (.iinc 3 1, 3) := by decide +kernel
theorem dX7_comes_98 : decode cX7_comes 98 = .ok (.goto (-79), 3) := by decide +kernel
theorem dX7_comes_101 : decode cX7_comes 101 = .ok (.aload_n 0, 1) := by decide +kernel
theorem dX7_comes_102 : decode cX7_comes 102 = .ok (.iload_n 2, 1) := by decide +kernel
theorem dX7_comes_103 : decode cX7_comes 103 = .ok (.putfield 75, 3) := by decide +kernel
theorem dX7_comes_106 : decode cX7_comes 106 = .ok (.iload_n 1, 1) := by decide +kernel
theorem dX7_comes_107 : decode cX7_comes 107 = .ok (.ireturn, 1) := by decide +kernel
theorem dX7_wrong_0 : decode cX7_wrong 0 = .ok (.aload_n 0, 1) := by decide +kernel
theorem dX7_wrong_1 : decode cX7_wrong 1 = .ok (.iload_n 1, 1) := by decide +kernel
theorem dX7_wrong_2 : decode cX7_wrong 2 = .ok (.invokevirtual 202, 3) := by decide +kernel
theorem dX7_wrong_5 : decode cX7_wrong 5 = .ok (.istore_n 2, 1) := by decide +kernel
theorem dX7_wrong_6 : decode cX7_wrong 6 = .ok (.iload_n 2, 1) := by decide +kernel
theorem dX7_wrong_7 : decode cX7_wrong 7 = .ok (.ifCond .eq 5, 3) := by decide +kernel
theorem dX7_wrong_10 : decode cX7_wrong 10 = .ok (.iload_n 2, 1) := by decide +kernel
theorem dX7_wrong_11 : decode cX7_wrong 11 = .ok (.ireturn, 1) := by decide +kernel
theorem dX7_wrong_12 : decode cX7_wrong 12 = .ok (.aload_n 0, 1) := by decide +kernel
theorem dX7_wrong_13 : decode cX7_wrong 13 = .ok (.aload_n 0, 1) := by decide +kernel
theorem dX7_wrong_14 : decode cX7_wrong 14 = .ok (.getfield 28, 3) := by decide +kernel
theorem dX7_wrong_17 : decode cX7_wrong 17 = .ok (.iload_n 1, 1) := by decide +kernel
theorem dX7_wrong_18 : decode cX7_wrong 18 = .ok (.invokevirtual 205, 3) := by decide +kernel
theorem dX7_wrong_21 : decode cX7_wrong 21 = .ok (.putfield 75, 3) := by decide +kernel
theorem dX7_wrong_24 : decode cX7_wrong 24 = .ok (.aload_n 0, 1) := by decide +kernel
theorem dX7_wrong_25 : decode cX7_wrong 25 = .ok (.getfield 28, 3) := by decide +kernel
theorem dX7_wrong_28 : decode cX7_wrong 28 = .ok (.iload_n 1, 1) := by decide +kernel
theorem dX7_wrong_29 : decode cX7_wrong 29 = .ok (.invokevirtual 208, 3) := by decide +kernel
theorem dX7_wrong_32 : decode cX7_wrong 32 = .ok (.ireturn, 1) := by decide +kernel
theorem dX7_best_0 : decode cX7_best 0 = .ok (.aload_n 0, 1) := by decide +kernel
theorem dX7_best_1 : decode cX7_best 1 = .ok (.getfield 28, 3) := by decide +kernel
theorem dX7_best_4 : decode cX7_best 4 = .ok (.getfield 121, 3) := by decide +kernel
theorem dX7_best_7 : decode cX7_best 7 = .ok (.ifCond .ne 6, 3) := by decide +kernel
theorem dX7_best_10 : decode cX7_best 10 = .ok (.bipush (-4), 2) := by decide +kernel
theorem dX7_best_12 : decode cX7_best 12 = .ok (.ireturn, 1) := by decide +kernel
theorem dX7_best_13 : decode cX7_best 13 = .ok (.iconst 0, 1) := by decide +kernel
theorem dX7_best_14 : decode cX7_best 14 = .ok (.istore_n 1, 1) := by decide +kernel
theorem dX7_best_15 : decode cX7_best 15 = .ok (.aload_n 0, 1) := by decide +kernel
theorem dX7_best_16 : decode cX7_best 16 = .ok (.getfield 28, 3) := by decide +kernel
theorem dX7_best_19 : decode cX7_best 19 = .ok (.iconst 0, 1) := by decide +kernel
theorem dX7_best_20 : decode cX7_best 20 = .ok (.invokevirtual 208, 3) := by decide +kernel
theorem dX7_best_23 : decode cX7_best 23 = .ok (.istore_n 2, 1) := by decide +kernel
theorem dX7_best_24 : decode cX7_best 24 = .ok (.iconst 1, 1) := by decide +kernel
theorem dX7_best_25 : decode cX7_best 25 = .ok (.istore_n 3, 1) := by decide +kernel
theorem dX7_best_26 : decode cX7_best 26 = .ok (.iload_n 3, 1) := by decide +kernel
theorem dX7_best_27 : decode cX7_best 27 = .ok (.bipush 31, 2) := by decide +kernel
theorem dX7_best_29 : decode cX7_best 29 = .ok (.if_icmp .ge 30, 3) := by decide +kernel
theorem dX7_best_32 : decode cX7_best 32 = .ok (.aload_n 0, 1) := by decide +kernel
theorem dX7_best_33 : decode cX7_best 33 = .ok (.getfield 28, 3) := by decide +kernel
theorem dX7_best_36 : decode cX7_best 36 = .ok (.iload_n 3, 1) := by decide +kernel
theorem dX7_best_37 : decode cX7_best 37 = .ok (.invokevirtual 208, 3) := by decide +kernel
theorem dX7_best_40 : decode cX7_best 40 = .ok (.istore 4, 2) := by decide +kernel
theorem dX7_best_42 : decode cX7_best 42 = .ok (.iload 4, 2) := by decide +kernel
theorem dX7_best_44 : decode cX7_best 44 = .ok (.iload_n 2, 1) := by decide +kernel
theorem dX7_best_45 : decode cX7_best 45 = .ok (.if_icmp .ge 8, 3) := by decide +kernel
theorem dX7_best_48 : decode cX7_best 48 = .ok (.iload 4, 2) := by decide +kernel
theorem dX7_best_50 : decode cX7_best 50 = .ok (.istore_n 2, 1) := by decide +kernel
theorem dX7_best_51 : decode cX7_best 51 = .ok (.iload_n 3, 1) := by decide +kernel
theorem dX7_best_52 : decode cX7_best 52 = .ok (.istore_n 1, 1) := by decide +kernel
theorem dX7_best_53 : decode cX7_best 53 = .ok (.iinc 3 1, 3) := by decide +kernel
theorem dX7_best_56 : decode cX7_best 56 = .ok (.goto (-30), 3) := by decide +kernel
theorem dX7_best_59 : decode cX7_best 59 = .ok (.aload_n 0, 1) := by decide +kernel
theorem dX7_best_60 : decode cX7_best 60 = .ok (.iload_n 2, 1) := by decide +kernel
theorem dX7_best_61 : decode cX7_best 61 = .ok (.putfield 75, 3) := by decide +kernel
theorem dX7_best_64 : decode cX7_best 64 = .ok (.iload_n 1, 1) := by decide +kernel
theorem dX7_best_65 : decode cX7_best 65 = .ok (.ireturn, 1) := by decide +kernel
theorem dX7_heats_0 : decode cX7_heats 0 = .ok (.aload_n 0, 1) := by decide +kernel
theorem dX7_heats_1 : decode cX7_heats 1 = .ok (.iload_n 1, 1) := by decide +kernel
theorem dX7_heats_2 : decode cX7_heats 2 = .ok (.invokevirtual 122, 3) := by decide +kernel
theorem dX7_heats_5 : decode cX7_heats 5 = .ok (.ifCond .eq 12, 3) := by decide +kernel
theorem dX7_heats_8 : decode cX7_heats 8 = .ok (.iload_n 2, 1) := by decide +kernel
theorem dX7_heats_9 : decode cX7_heats 9 = .ok (.ifCond .lt 8, 3) := by decide +kernel
theorem dX7_heats_12 : decode cX7_heats 12 = .ok (.iload_n 2, 1) := by decide +kernel
theorem dX7_heats_13 : decode cX7_heats 13 = .ok (.iconst 3, 1) := by decide +kernel
theorem dX7_heats_14 : decode cX7_heats 14 = .ok (.if_icmp .lt 5, 3) := by decide +kernel
theorem dX7_heats_17 : decode cX7_heats 17 = .ok (.iconst (-1), 1) := by decide +kernel
theorem dX7_heats_18 : decode cX7_heats 18 = .ok (.ireturn, 1) := by decide +kernel
theorem dX7_heats_19 : decode cX7_heats 19 = .ok (.aload_n 0, 1) := by decide +kernel
theorem dX7_heats_20 : decode cX7_heats 20 = .ok (.getfield 28, 3) := by decide +kernel
theorem dX7_heats_23 : decode cX7_heats 23 = .ok (.aload_n 0, 1) := by decide +kernel
theorem dX7_heats_24 : decode cX7_heats 24 = .ok (.getfield 28, 3) := by decide +kernel
theorem dX7_heats_27 : decode cX7_heats 27 = .ok (.getfield 126, 3) := by decide +kernel
theorem dX7_heats_30 : decode cX7_heats 30 = .ok (.iload_n 1, 1) := by decide +kernel
theorem dX7_heats_31 : decode cX7_heats 31 = .ok (.aaload, 1) := by decide +kernel
theorem dX7_heats_32 : decode cX7_heats 32 = .ok (.iload_n 2, 1) := by decide +kernel
theorem dX7_heats_33 : decode cX7_heats 33 = .ok (.invokevirtual 211, 3) := by decide +kernel
theorem dX7_heats_36 : decode cX7_heats 36 = .ok (.ireturn, 1) := by decide +kernel
theorem dX7_tells_0 : decode cX7_tells 0 = .ok (.aload_n 0, 1) := by decide +kernel
theorem dX7_tells_1 : decode cX7_tells 1 = .ok (.iload_n 1, 1) := by decide +kernel
theorem dX7_tells_2 : decode cX7_tells 2 = .ok (.invokevirtual 202, 3) := by decide +kernel
theorem dX7_tells_5 : decode cX7_tells 5 = .ok (.istore_n 2, 1) := by decide +kernel
theorem dX7_tells_6 : decode cX7_tells 6 = .ok (.iload_n 2, 1) := by decide +kernel
theorem dX7_tells_7 : decode cX7_tells 7 = .ok (.ifCond .eq 5, 3) := by decide +kernel
theorem dX7_tells_10 : decode cX7_tells 10 = .ok (.iload_n 2, 1) := by decide +kernel
theorem dX7_tells_11 : decode cX7_tells 11 = .ok (.ireturn, 1) := by decide +kernel
theorem dX7_tells_12 : decode cX7_tells 12 = .ok (.iconst 0, 1) := by decide +kernel
theorem dX7_tells_13 : decode cX7_tells 13 = .ok (.istore_n 3, 1) := by decide +kernel
theorem dX7_tells_14 : decode cX7_tells 14 = .ok (.iconst 0, 1) := by decide +kernel
theorem dX7_tells_15 : decode cX7_tells 15 = .ok (.istore 4, 2) := by decide +kernel
theorem dX7_tells_17 : decode cX7_tells 17 = .ok (.iconst 0, 1) := by decide +kernel
theorem dX7_tells_18 : decode cX7_tells 18 = .ok (.istore 5, 2) := by decide +kernel
theorem dX7_tells_20 : decode cX7_tells 20 = .ok (.iload 5, 2) := by decide +kernel
theorem dX7_tells_22 : decode cX7_tells 22 = .ok (.aload_n 0, 1) := by decide +kernel
theorem dX7_tells_23 : decode cX7_tells 23 = .ok (.getfield 28, 3) := by decide +kernel
theorem dX7_tells_26 : decode cX7_tells 26 = .ok (.getfield 121, 3) := by decide +kernel
theorem dX7_tells_29 : decode cX7_tells 29 = .ok (.if_icmp .ge 56, 3) := by decide +kernel
theorem dX7_tells_32 : decode cX7_tells 32 = .ok (.aload_n 0, 1) := by decide +kernel
theorem dX7_tells_33 : decode cX7_tells 33 = .ok (.getfield 28, 3) := by decide +kernel
theorem dX7_tells_36 : decode cX7_tells 36 = .ok (.getfield 126, 3) := by decide +kernel
theorem dX7_tells_39 : decode cX7_tells 39 = .ok (.iload 5, 2) := by decide +kernel
theorem dX7_tells_41 : decode cX7_tells 41 = .ok (.aaload, 1) := by decide +kernel
theorem dX7_tells_42 : decode cX7_tells 42 = .ok (.astore 6, 2) := by decide +kernel
theorem dX7_tells_44 : decode cX7_tells 44 = .ok (.aload 6, 2) := by decide +kernel
theorem dX7_tells_46 : decode cX7_tells 46 = .ok (.invokevirtual 180, 3) := by decide +kernel
theorem dX7_tells_49 : decode cX7_tells 49 = .ok (.ifCond .ne 30, 3) := by decide +kernel
theorem dX7_tells_52 : decode cX7_tells 52 = .ok (.aload_n 0, 1) := by decide +kernel
theorem dX7_tells_53 : decode cX7_tells 53 = .ok (.getfield 28, 3) := by decide +kernel
theorem dX7_tells_56 : decode cX7_tells 56 = .ok (.aload 6, 2) := by decide +kernel
theorem dX7_tells_58 : decode cX7_tells 58 = .ok (.iload_n 1, 1) := by decide +kernel
theorem dX7_tells_59 : decode cX7_tells 59 = .ok (.invokevirtual 200, 3) := by decide +kernel
theorem dX7_tells_62 : decode cX7_tells 62 = .ok (.iconst 1, 1) := by decide +kernel
theorem dX7_tells_63 : decode cX7_tells 63 = .ok (.if_icmp .ne 16, 3) := by decide +kernel
theorem dX7_tells_66 : decode cX7_tells 66 = .ok (.iinc 3 1, 3) := by decide +kernel
theorem dX7_tells_69 : decode cX7_tells 69 = .ok (.iload 4, 2) := by decide +kernel
theorem dX7_tells_71 : decode cX7_tells 71 = .ok (.aload 6, 2) := by decide +kernel
theorem dX7_tells_73 : decode cX7_tells 73 = .ok (.getfield 214, 3) := by decide +kernel
theorem dX7_tells_76 : decode cX7_tells 76 = .ok (.iadd, 1) := by decide +kernel
theorem dX7_tells_77 : decode cX7_tells 77 = .ok (.istore 4, 2) := by decide +kernel
theorem dX7_tells_79 : decode cX7_tells 79 = .ok (.iinc 5 1, 3) := by decide +kernel
theorem dX7_tells_82 : decode cX7_tells 82 = .ok (.goto (-62), 3) := by decide +kernel
theorem dX7_tells_85 : decode cX7_tells 85 = .ok (.aload_n 0, 1) := by decide +kernel
theorem dX7_tells_86 : decode cX7_tells 86 = .ok (.iload 4, 2) := by decide +kernel
theorem dX7_tells_88 : decode cX7_tells 88 = .ok (.i2l, 1) := by decide +kernel
theorem dX7_tells_89 : decode cX7_tells 89 = .ok (.iload_n 3, 1) := by decide +kernel
theorem dX7_tells_90 : decode cX7_tells 90 = .ok (.i2l, 1) := by decide +kernel
theorem dX7_tells_91 : decode cX7_tells 91 = .ok (.invokevirtual 217, 3) := by decide +kernel
theorem dX7_tells_94 : decode cX7_tells 94 = .ok (.iconst 1, 1) := by decide +kernel
theorem dX7_tells_95 : decode cX7_tells 95 = .ok (.ireturn, 1) := by decide +kernel
theorem dX7_order_0 : decode cX7_order 0 = .ok (.aload_n 0, 1) := by decide +kernel
theorem dX7_order_1 : decode cX7_order 1 = .ok (.iload_n 1, 1) := by decide +kernel
theorem dX7_order_2 : decode cX7_order 2 = .ok (.invokevirtual 221, 3) := by decide +kernel
theorem dX7_order_5 : decode cX7_order 5 = .ok (.istore_n 2, 1) := by decide +kernel
theorem dX7_order_6 : decode cX7_order 6 = .ok (.iload_n 2, 1) := by decide +kernel
theorem dX7_order_7 : decode cX7_order 7 = .ok (.ifCond .eq 5, 3) := by decide +kernel
theorem dX7_order_10 : decode cX7_order 10 = .ok (.iload_n 2, 1) := by decide +kernel
theorem dX7_order_11 : decode cX7_order 11 = .ok (.ireturn, 1) := by decide +kernel
theorem dX7_order_12 : decode cX7_order 12 = .ok (.aload_n 0, 1) := by decide +kernel
theorem dX7_order_13 : decode cX7_order 13 = .ok (.getfield 41, 3) := by decide +kernel
theorem dX7_order_16 : decode cX7_order 16 = .ok (.aload_n 0, 1) := by decide +kernel
theorem dX7_order_17 : decode cX7_order 17 = .ok (.getfield 28, 3) := by decide +kernel
theorem dX7_order_20 : decode cX7_order 20 = .ok (.aload_n 0, 1) := by decide +kernel
theorem dX7_order_21 : decode cX7_order 21 = .ok (.getfield 11, 3) := by decide +kernel
theorem dX7_order_24 : decode cX7_order 24 = .ok (.iload_n 1, 1) := by decide +kernel
theorem dX7_order_25 : decode cX7_order 25 = .ok (.aaload, 1) := by decide +kernel
theorem dX7_order_26 : decode cX7_order 26 = .ok (.invokevirtual 224, 3) := by decide +kernel
theorem dX7_order_29 : decode cX7_order 29 = .ok (.ireturn, 1) := by decide +kernel
theorem dX7_tried_0 : decode cX7_tried 0 = .ok (.aload_n 0, 1) := by decide +kernel
theorem dX7_tried_1 : decode cX7_tried 1 = .ok (.iload_n 1, 1) := by decide +kernel
theorem dX7_tried_2 : decode cX7_tried 2 = .ok (.invokevirtual 221, 3) := by decide +kernel
theorem dX7_tried_5 : decode cX7_tried 5 = .ok (.istore_n 2, 1) := by decide +kernel
theorem dX7_tried_6 : decode cX7_tried 6 = .ok (.iload_n 2, 1) := by decide +kernel
theorem dX7_tried_7 : decode cX7_tried 7 = .ok (.ifCond .eq 5, 3) := by decide +kernel
theorem dX7_tried_10 : decode cX7_tried 10 = .ok (.iload_n 2, 1) := by decide +kernel
theorem dX7_tried_11 : decode cX7_tried 11 = .ok (.ireturn, 1) := by decide +kernel
theorem dX7_tried_12 : decode cX7_tried 12 = .ok (.aload_n 0, 1) := by decide +kernel
theorem dX7_tried_13 : decode cX7_tried 13 = .ok (.getfield 11, 3) := by decide +kernel
theorem dX7_tried_16 : decode cX7_tried 16 = .ok (.iload_n 1, 1) := by decide +kernel
theorem dX7_tried_17 : decode cX7_tried 17 = .ok (.aaload, 1) := by decide +kernel
theorem dX7_tried_18 : decode cX7_tried 18 = .ok (.astore_n 3, 1) := by decide +kernel
theorem dX7_tried_19 : decode cX7_tried 19 = .ok (.aload_n 0, 1) := by decide +kernel
theorem dX7_tried_20 : decode cX7_tried 20 = .ok (.aload_n 3, 1) := by decide +kernel
theorem dX7_tried_21 : decode cX7_tried 21 = .ok (.invokevirtual 228, 3) := by decide +kernel
theorem dX7_tried_24 : decode cX7_tried 24 = .ok (.istore 4, 2) := by decide +kernel
theorem dX7_tried_26 : decode cX7_tried 26 = .ok (.iload 4, 2) := by decide +kernel
theorem dX7_tried_28 : decode cX7_tried 28 = .ok (.ifCond .eq 10, 3) := by decide +kernel
theorem dX7_tried_31 : decode cX7_tried 31 = .ok (.aload_n 0, 1) := by decide +kernel
theorem dX7_tried_32 : decode cX7_tried 32 = .ok (.iload 4, 2) := by decide +kernel
theorem dX7_tried_34 : decode cX7_tried 34 = .ok (.invokevirtual 90, 3) := by decide +kernel
theorem dX7_tried_37 : decode cX7_tried 37 = .ok (.ireturn, 1) := by decide +kernel
theorem dX7_tried_38 : decode cX7_tried 38 = .ok (.iconst 0, 1) := by decide +kernel
theorem dX7_tried_39 : decode cX7_tried 39 = .ok (.istore 5, 2) := by decide +kernel
theorem dX7_tried_41 : decode cX7_tried 41 = .ok (.aload_n 0, 1) := by decide +kernel
theorem dX7_tried_42 : decode cX7_tried 42 = .ok (.getfield 28, 3) := by decide +kernel
theorem dX7_tried_45 : decode cX7_tried 45 = .ok (.invokevirtual 231, 3) := by decide +kernel
theorem dX7_tried_48 : decode cX7_tried 48 = .ok (.istore 6, 2) := by decide +kernel
theorem dX7_tried_50 : decode cX7_tried 50 = .ok (.aload_n 0, 1) := by decide +kernel
theorem dX7_tried_51 : decode cX7_tried 51 = .ok (.getfield 28, 3) := by decide +kernel
theorem dX7_tried_54 : decode cX7_tried 54 = .ok (.getfield 151, 3) := by decide +kernel
theorem dX7_tried_57 : decode cX7_tried 57 = .ok (.istore 7, 2) := by decide +kernel
theorem dX7_tried_59 : decode cX7_tried 59 = .ok (.iconst 0, 1) := by decide +kernel
theorem dX7_tried_60 : decode cX7_tried 60 = .ok (.istore 8, 2) := by decide +kernel
theorem dX7_tried_62 : decode cX7_tried 62 = .ok (.iload 8, 2) := by decide +kernel
theorem dX7_tried_64 : decode cX7_tried 64 = .ok (.aload_n 3, 1) := by decide +kernel
theorem dX7_tried_65 : decode cX7_tried 65 = .ok (.getfield 83, 3) := by decide +kernel
theorem dX7_tried_68 : decode cX7_tried 68 = .ok (.if_icmp .ge 90, 3) := by decide +kernel
theorem dX7_tried_71 : decode cX7_tried 71 = .ok (.aload_n 0, 1) := by decide +kernel
theorem dX7_tried_72 : decode cX7_tried 72 = .ok (.getfield 28, 3) := by decide +kernel
theorem dX7_tried_75 : decode cX7_tried 75 = .ok (.getfield 126, 3) := by decide +kernel
theorem dX7_tried_78 : decode cX7_tried 78 = .ok (.aload_n 3, 1) := by decide +kernel
theorem dX7_tried_79 : decode cX7_tried 79 = .ok (.getfield 72, 3) := by decide +kernel
theorem dX7_tried_82 : decode cX7_tried 82 = .ok (.iload 8, 2) := by decide +kernel
theorem dX7_tried_84 : decode cX7_tried 84 = .ok (.iaload, 1) := by decide +kernel
theorem dX7_tried_85 : decode cX7_tried 85 = .ok (.aaload, 1) := by decide +kernel
theorem dX7_tried_86 : decode cX7_tried 86 = .ok (.astore 9, 2) := by decide +kernel
theorem dX7_tried_88 : decode cX7_tried 88 = .ok (.aload_n 0, 1) := by decide +kernel
theorem dX7_tried_89 : decode cX7_tried 89 = .ok (.getfield 28, 3) := by decide +kernel
theorem dX7_tried_92 : decode cX7_tried 92 = .ok (.aload 9, 2) := by decide +kernel
theorem dX7_tried_94 : decode cX7_tried 94 = .ok (.iload 7, 2) := by decide +kernel
theorem dX7_tried_96 : decode cX7_tried 96 = .ok (.invokevirtual 200, 3) := by decide +kernel
theorem dX7_tried_99 : decode cX7_tried 99 = .ok (.istore 10, 2) := by decide +kernel
theorem dX7_tried_101 : decode cX7_tried 101 = .ok (.iload 5, 2) := by decide +kernel
theorem dX7_tried_103 : decode cX7_tried 103 = .ok (.aload 9, 2) := by decide +kernel
theorem dX7_tried_105 : decode cX7_tried 105 = .ok (.iload 10, 2) := by decide +kernel
theorem dX7_tried_107 : decode cX7_tried 107 = .ok (.invokevirtual 234, 3) := by decide +kernel
theorem dX7_tried_110 : decode cX7_tried 110 = .ok (.ifCond .eq 7, 3) := by decide +kernel
theorem dX7_tried_113 : decode cX7_tried 113 = .ok (.iconst 1, 1) := by decide +kernel
theorem dX7_tried_114 : decode cX7_tried 114 = .ok (.goto 4, 3) := by decide +kernel
theorem dX7_tried_117 : decode cX7_tried 117 = .ok (.iconst 0, 1) := by decide +kernel
theorem dX7_tried_118 : decode cX7_tried 118 = .ok (.iadd, 1) := by decide +kernel
theorem dX7_tried_119 : decode cX7_tried 119 = .ok (.istore 5, 2) := by decide +kernel
theorem dX7_tried_121 : decode cX7_tried 121 = .ok (.iload 6, 2) := by decide +kernel
theorem dX7_tried_123 : decode cX7_tried 123 = .ok (.iload 10, 2) := by decide +kernel
theorem dX7_tried_125 : decode cX7_tried 125 = .ok (.iconst 1, 1) := by decide +kernel
theorem dX7_tried_126 : decode cX7_tried 126 = .ok (.if_icmp .ne 7, 3) := by decide +kernel
theorem dX7_tried_129 : decode cX7_tried 129 = .ok (.iconst 1, 1) := by decide +kernel
theorem dX7_tried_130 : decode cX7_tried 130 = .ok (.goto 4, 3) := by decide +kernel
theorem dX7_tried_133 : decode cX7_tried 133 = .ok (.iconst 0, 1) := by decide +kernel
theorem dX7_tried_134 : decode cX7_tried 134 = .ok (.iadd, 1) := by decide +kernel
theorem dX7_tried_135 : decode cX7_tried 135 = .ok (.istore 6, 2) := by decide +kernel
theorem dX7_tried_137 : decode cX7_tried 137 = .ok (.aload_n 0, 1) := by decide +kernel
theorem dX7_tried_138 : decode cX7_tried 138 = .ok (.getfield 28, 3) := by decide +kernel
theorem dX7_tried_141 : decode cX7_tried 141 = .ok (.iload 10, 2) := by decide +kernel
theorem dX7_tried_143 : decode cX7_tried 143 = .ok (.iload 6, 2) := by decide +kernel
theorem dX7_tried_145 : decode cX7_tried 145 = .ok (.iload 7, 2) := by decide +kernel
theorem dX7_tried_147 : decode cX7_tried 147 = .ok (.invokevirtual 237, 3) := by decide +kernel
theorem dX7_tried_150 : decode cX7_tried 150 = .ok (.istore 7, 2) := by decide +kernel
theorem dX7_tried_152 : decode cX7_tried 152 = .ok (.iinc 8 1, 3) := by decide +kernel
theorem dX7_tried_155 : decode cX7_tried 155 = .ok (.goto (-93), 3) := by decide +kernel
theorem dX7_tried_158 : decode cX7_tried 158 = .ok (.aload_n 0, 1) := by decide +kernel
theorem dX7_tried_159 : decode cX7_tried 159 = .ok (.iload 7, 2) := by decide +kernel
theorem dX7_tried_161 : decode cX7_tried 161 = .ok (.putfield 75, 3) := by decide +kernel
theorem dX7_tried_164 : decode cX7_tried 164 = .ok (.iload 5, 2) := by decide +kernel
theorem dX7_tried_166 : decode cX7_tried 166 = .ok (.ireturn, 1) := by decide +kernel
theorem dX7_least_0 : decode cX7_least 0 = .ok (.aload_n 0, 1) := by decide +kernel
theorem dX7_least_1 : decode cX7_least 1 = .ok (.getfield 28, 3) := by decide +kernel
theorem dX7_least_4 : decode cX7_least 4 = .ok (.getfield 121, 3) := by decide +kernel
theorem dX7_least_7 : decode cX7_least 7 = .ok (.ifCond .ne 6, 3) := by decide +kernel
theorem dX7_least_10 : decode cX7_least 10 = .ok (.bipush (-4), 2) := by decide +kernel
theorem dX7_least_12 : decode cX7_least 12 = .ok (.ireturn, 1) := by decide +kernel
theorem dX7_least_13 : decode cX7_least 13 = .ok (.iconst 0, 1) := by decide +kernel
theorem dX7_least_14 : decode cX7_least 14 = .ok (.istore_n 1, 1) := by decide +kernel
theorem dX7_least_15 : decode cX7_least 15 = .ok (.iconst 0, 1) := by decide +kernel
theorem dX7_least_16 : decode cX7_least 16 = .ok (.istore_n 2, 1) := by decide +kernel
theorem dX7_least_17 : decode cX7_least 17 = .ok (.iconst 0, 1) := by decide +kernel
theorem dX7_least_18 : decode cX7_least 18 = .ok (.istore_n 3, 1) := by decide +kernel
theorem dX7_least_19 : decode cX7_least 19 = .ok (.iload_n 3, 1) := by decide +kernel
theorem dX7_least_20 : decode cX7_least 20 = .ok (.aload_n 0, 1) := by decide +kernel
theorem dX7_least_21 : decode cX7_least 21 = .ok (.getfield 28, 3) := by decide +kernel
theorem dX7_least_24 : decode cX7_least 24 = .ok (.getfield 121, 3) := by decide +kernel
theorem dX7_least_27 : decode cX7_least 27 = .ok (.if_icmp .ge 80, 3) := by decide +kernel
theorem dX7_least_30 : decode cX7_least 30 = .ok (.aload_n 0, 1) := by decide +kernel
theorem dX7_least_31 : decode cX7_least 31 = .ok (.getfield 28, 3) := by decide +kernel
theorem dX7_least_34 : decode cX7_least 34 = .ok (.getfield 126, 3) := by decide +kernel
theorem dX7_least_37 : decode cX7_least 37 = .ok (.iload_n 3, 1) := by decide +kernel
theorem dX7_least_38 : decode cX7_least 38 = .ok (.aaload, 1) := by decide +kernel
theorem dX7_least_39 : decode cX7_least 39 = .ok (.astore 4, 2) := by decide +kernel
theorem dX7_least_41 : decode cX7_least 41 = .ok (.aload_n 0, 1) := by decide +kernel
theorem dX7_least_42 : decode cX7_least 42 = .ok (.getfield 28, 3) := by decide +kernel
theorem dX7_least_45 : decode cX7_least 45 = .ok (.aload 4, 2) := by decide +kernel
theorem dX7_least_47 : decode cX7_least 47 = .ok (.invokevirtual 241, 3) := by decide +kernel
theorem dX7_least_50 : decode cX7_least 50 = .ok (.ifCond .eq 15, 3) := by decide +kernel
theorem dX7_least_53 : decode cX7_least 53 = .ok (.aload_n 0, 1) := by decide +kernel
theorem dX7_least_54 : decode cX7_least 54 = .ok (.getfield 28, 3) := by decide +kernel
theorem dX7_least_57 : decode cX7_least 57 = .ok (.aload 4, 2) := by decide +kernel
theorem dX7_least_59 : decode cX7_least 59 = .ok (.invokevirtual 245, 3) := by decide +kernel
theorem dX7_least_62 : decode cX7_least 62 = .ok (.goto 4, 3) := by decide +kernel
theorem dX7_least_65 : decode cX7_least 65 = .ok (.iconst 0, 1) := by decide +kernel
theorem dX7_least_66 : decode cX7_least 66 = .ok (.istore 5, 2) := by decide +kernel
theorem dX7_least_68 : decode cX7_least 68 = .ok (.aload 4, 2) := by decide +kernel
theorem dX7_least_70 : decode cX7_least 70 = .ok (.getfield 177, 3) := by decide +kernel
theorem dX7_least_73 : decode cX7_least 73 = .ok (.iload 5, 2) := by decide +kernel
theorem dX7_least_75 : decode cX7_least 75 = .ok (.iadd, 1) := by decide +kernel
theorem dX7_least_76 : decode cX7_least 76 = .ok (.iconst 3, 1) := by decide +kernel
theorem dX7_least_77 : decode cX7_least 77 = .ok (.if_icmp .le 6, 3) := by decide +kernel
theorem dX7_least_80 : decode cX7_least 80 = .ok (.bipush (-9), 2) := by decide +kernel
theorem dX7_least_82 : decode cX7_least 82 = .ok (.ireturn, 1) := by decide +kernel
theorem dX7_least_83 : decode cX7_least 83 = .ok (.iload_n 1, 1) := by decide +kernel
theorem dX7_least_84 : decode cX7_least 84 = .ok (.iload 5, 2) := by decide +kernel
theorem dX7_least_86 : decode cX7_least 86 = .ok (.iadd, 1) := by decide +kernel
theorem dX7_least_87 : decode cX7_least 87 = .ok (.istore_n 1, 1) := by decide +kernel
theorem dX7_least_88 : decode cX7_least 88 = .ok (.iload_n 2, 1) := by decide +kernel
theorem dX7_least_89 : decode cX7_least 89 = .ok (.iload 5, 2) := by decide +kernel
theorem dX7_least_91 : decode cX7_least 91 = .ok (.ifCond .le 7, 3) := by decide +kernel
theorem dX7_least_94 : decode cX7_least 94 = .ok (.iconst 1, 1) := by decide +kernel
theorem dX7_least_95 : decode cX7_least 95 = .ok (.goto 4, 3) := by decide +kernel
theorem dX7_least_98 : decode cX7_least 98 = .ok (.iconst 0, 1) := by decide +kernel
theorem dX7_least_99 : decode cX7_least 99 = .ok (.iadd, 1) := by decide +kernel
theorem dX7_least_100 : decode cX7_least 100 = .ok (.istore_n 2, 1) := by decide +kernel
theorem dX7_least_101 : decode cX7_least 101 = .ok (.iinc 3 1, 3) := by decide +kernel
theorem dX7_least_104 : decode cX7_least 104 = .ok (.goto (-85), 3) := by decide +kernel
theorem dX7_least_107 : decode cX7_least 107 = .ok (.aload_n 0, 1) := by decide +kernel
theorem dX7_least_108 : decode cX7_least 108 = .ok (.iload_n 2, 1) := by decide +kernel
theorem dX7_least_109 : decode cX7_least 109 = .ok (.putfield 75, 3) := by decide +kernel
theorem dX7_least_112 : decode cX7_least 112 = .ok (.iload_n 1, 1) := by decide +kernel
theorem dX7_least_113 : decode cX7_least 113 = .ok (.ireturn, 1) := by decide +kernel
theorem dX7_fits_0 : decode cX7_fits 0 = .ok (.aload_n 0, 1) := by decide +kernel
theorem dX7_fits_1 : decode cX7_fits 1 = .ok (.iload_n 1, 1) := by decide +kernel
theorem dX7_fits_2 : decode cX7_fits 2 = .ok (.invokevirtual 248, 3) := by decide +kernel
theorem dX7_fits_5 : decode cX7_fits 5 = .ok (.istore_n 2, 1) := by decide +kernel
theorem dX7_fits_6 : decode cX7_fits 6 = .ok (.iload_n 2, 1) := by decide +kernel
theorem dX7_fits_7 : decode cX7_fits 7 = .ok (.ifCond .eq 5, 3) := by decide +kernel
theorem dX7_fits_10 : decode cX7_fits 10 = .ok (.iload_n 2, 1) := by decide +kernel
theorem dX7_fits_11 : decode cX7_fits 11 = .ok (.ireturn, 1) := by decide +kernel
theorem dX7_fits_12 : decode cX7_fits 12 = .ok (.aload_n 0, 1) := by decide +kernel
theorem dX7_fits_13 : decode cX7_fits 13 = .ok (.getfield 28, 3) := by decide +kernel
theorem dX7_fits_16 : decode cX7_fits 16 = .ok (.aload_n 0, 1) := by decide +kernel
theorem dX7_fits_17 : decode cX7_fits 17 = .ok (.getfield 11, 3) := by decide +kernel
theorem dX7_fits_20 : decode cX7_fits 20 = .ok (.iload_n 1, 1) := by decide +kernel
theorem dX7_fits_21 : decode cX7_fits 21 = .ok (.aaload, 1) := by decide +kernel
theorem dX7_fits_22 : decode cX7_fits 22 = .ok (.invokevirtual 251, 3) := by decide +kernel
theorem dX7_fits_25 : decode cX7_fits 25 = .ok (.istore_n 3, 1) := by decide +kernel
theorem dX7_fits_26 : decode cX7_fits 26 = .ok (.aload_n 0, 1) := by decide +kernel
theorem dX7_fits_27 : decode cX7_fits 27 = .ok (.iload_n 3, 1) := by decide +kernel
theorem dX7_fits_28 : decode cX7_fits 28 = .ok (.invokestatic 254, 3) := by decide +kernel
theorem dX7_fits_31 : decode cX7_fits 31 = .ok (.putfield 75, 3) := by decide +kernel
theorem dX7_fits_34 : decode cX7_fits 34 = .ok (.iload_n 3, 1) := by decide +kernel
theorem dX7_fits_35 : decode cX7_fits 35 = .ok (.ireturn, 1) := by decide +kernel
theorem dX7_ask_0 : decode cX7_ask 0 = .ok (.aload_n 0, 1) := by decide +kernel
theorem dX7_ask_1 : decode cX7_ask 1 = .ok (.iload_n 1, 1) := by decide +kernel
theorem dX7_ask_2 : decode cX7_ask 2 = .ok (.invokevirtual 248, 3) := by decide +kernel
theorem dX7_ask_5 : decode cX7_ask 5 = .ok (.istore_n 2, 1) := by decide +kernel
theorem dX7_ask_6 : decode cX7_ask 6 = .ok (.iload_n 2, 1) := by decide +kernel
theorem dX7_ask_7 : decode cX7_ask 7 = .ok (.ifCond .eq 5, 3) := by decide +kernel
theorem dX7_ask_10 : decode cX7_ask 10 = .ok (.iload_n 2, 1) := by decide +kernel
theorem dX7_ask_11 : decode cX7_ask 11 = .ok (.ireturn, 1) := by decide +kernel
theorem dX7_ask_12 : decode cX7_ask 12 = .ok (.aload_n 0, 1) := by decide +kernel
theorem dX7_ask_13 : decode cX7_ask 13 = .ok (.getfield 28, 3) := by decide +kernel
theorem dX7_ask_16 : decode cX7_ask 16 = .ok (.aload_n 0, 1) := by decide +kernel
theorem dX7_ask_17 : decode cX7_ask 17 = .ok (.getfield 11, 3) := by decide +kernel
theorem dX7_ask_20 : decode cX7_ask 20 = .ok (.iload_n 1, 1) := by decide +kernel
theorem dX7_ask_21 : decode cX7_ask 21 = .ok (.aaload, 1) := by decide +kernel
theorem dX7_ask_22 : decode cX7_ask 22 = .ok (.invokevirtual 251, 3) := by decide +kernel
theorem dX7_ask_25 : decode cX7_ask 25 = .ok (.istore_n 3, 1) := by decide +kernel
theorem dX7_ask_26 : decode cX7_ask 26 = .ok (.iload_n 3, 1) := by decide +kernel
theorem dX7_ask_27 : decode cX7_ask 27 = .ok (.ifCond .ne 6, 3) := by decide +kernel
theorem dX7_ask_30 : decode cX7_ask 30 = .ok (.bipush (-9), 2) := by decide +kernel
theorem dX7_ask_32 : decode cX7_ask 32 = .ok (.ireturn, 1) := by decide +kernel
theorem dX7_ask_33 : decode cX7_ask 33 = .ok (.iconst 0, 1) := by decide +kernel
theorem dX7_ask_34 : decode cX7_ask 34 = .ok (.istore 4, 2) := by decide +kernel
theorem dX7_ask_36 : decode cX7_ask 36 = .ok (.aload_n 0, 1) := by decide +kernel
theorem dX7_ask_37 : decode cX7_ask 37 = .ok (.getfield 28, 3) := by decide +kernel
theorem dX7_ask_40 : decode cX7_ask 40 = .ok (.aload_n 0, 1) := by decide +kernel
theorem dX7_ask_41 : decode cX7_ask 41 = .ok (.getfield 28, 3) := by decide +kernel
theorem dX7_ask_44 : decode cX7_ask 44 = .ok (.getfield 126, 3) := by decide +kernel
theorem dX7_ask_47 : decode cX7_ask 47 = .ok (.iconst 0, 1) := by decide +kernel
theorem dX7_ask_48 : decode cX7_ask 48 = .ok (.aaload, 1) := by decide +kernel
theorem dX7_ask_49 : decode cX7_ask 49 = .ok (.iload_n 3, 1) := by decide +kernel
theorem dX7_ask_50 : decode cX7_ask 50 = .ok (.invokevirtual 259, 3) := by decide +kernel
theorem dX7_ask_53 : decode cX7_ask 53 = .ok (.istore 5, 2) := by decide +kernel
theorem dX7_ask_55 : decode cX7_ask 55 = .ok (.iconst 1, 1) := by decide +kernel
theorem dX7_ask_56 : decode cX7_ask 56 = .ok (.istore 6, 2) := by decide +kernel
theorem dX7_ask_58 : decode cX7_ask 58 = .ok (.iload 6, 2) := by decide +kernel
theorem dX7_ask_60 : decode cX7_ask 60 = .ok (.aload_n 0, 1) := by decide +kernel
theorem dX7_ask_61 : decode cX7_ask 61 = .ok (.getfield 28, 3) := by decide +kernel
theorem dX7_ask_64 : decode cX7_ask 64 = .ok (.getfield 121, 3) := by decide +kernel
theorem dX7_ask_67 : decode cX7_ask 67 = .ok (.if_icmp .ge 44, 3) := by decide +kernel
theorem dX7_ask_70 : decode cX7_ask 70 = .ok (.aload_n 0, 1) := by decide +kernel
theorem dX7_ask_71 : decode cX7_ask 71 = .ok (.getfield 28, 3) := by decide +kernel
theorem dX7_ask_74 : decode cX7_ask 74 = .ok (.aload_n 0, 1) := by decide +kernel
theorem dX7_ask_75 : decode cX7_ask 75 = .ok (.getfield 28, 3) := by decide +kernel
theorem dX7_ask_78 : decode cX7_ask 78 = .ok (.getfield 126, 3) := by decide +kernel
theorem dX7_ask_81 : decode cX7_ask 81 = .ok (.iload 6, 2) := by decide +kernel
theorem dX7_ask_83 : decode cX7_ask 83 = .ok (.aaload, 1) := by decide +kernel
theorem dX7_ask_84 : decode cX7_ask 84 = .ok (.iload_n 3, 1) := by decide +kernel
theorem dX7_ask_85 : decode cX7_ask 85 = .ok (.invokevirtual 259, 3) := by decide +kernel
theorem dX7_ask_88 : decode cX7_ask 88 = .ok (.istore 7, 2) := by decide +kernel
theorem dX7_ask_90 : decode cX7_ask 90 = .ok (.iload 7, 2) := by decide +kernel
theorem dX7_ask_92 : decode cX7_ask 92 = .ok (.iload 5, 2) := by decide +kernel
theorem dX7_ask_94 : decode cX7_ask 94 = .ok (.if_icmp .ge 11, 3) := by decide +kernel
theorem dX7_ask_97 : decode cX7_ask 97 = .ok (.iload 7, 2) := by decide +kernel
theorem dX7_ask_99 : decode cX7_ask 99 = .ok (.istore 5, 2) := by decide +kernel
theorem dX7_ask_101 : decode cX7_ask 101 = .ok (.iload 6, 2) := by decide +kernel
theorem dX7_ask_103 : decode cX7_ask 103 = .ok (.istore 4, 2) := by decide +kernel
theorem dX7_ask_105 : decode cX7_ask 105 = .ok (.iinc 6 1, 3) := by decide +kernel
theorem dX7_ask_108 : decode cX7_ask 108 = .ok (.goto (-50), 3) := by decide +kernel
theorem dX7_ask_111 : decode cX7_ask 111 = .ok (.aload_n 0, 1) := by decide +kernel
theorem dX7_ask_112 : decode cX7_ask 112 = .ok (.iload 5, 2) := by decide +kernel
theorem dX7_ask_114 : decode cX7_ask 114 = .ok (.putfield 75, 3) := by decide +kernel
theorem dX7_ask_117 : decode cX7_ask 117 = .ok (.iload 4, 2) := by decide +kernel
theorem dX7_ask_119 : decode cX7_ask 119 = .ok (.ireturn, 1) := by decide +kernel
theorem dX7_hands_0 : decode cX7_hands 0 = .ok (.aload_n 0, 1) := by decide +kernel
theorem dX7_hands_1 : decode cX7_hands 1 = .ok (.iload_n 1, 1) := by decide +kernel
theorem dX7_hands_2 : decode cX7_hands 2 = .ok (.iload_n 2, 1) := by decide +kernel
theorem dX7_hands_3 : decode cX7_hands 3 = .ok (.invokevirtual 262, 3) := by decide +kernel
theorem dX7_hands_6 : decode cX7_hands 6 = .ok (.istore_n 3, 1) := by decide +kernel
theorem dX7_hands_7 : decode cX7_hands 7 = .ok (.iload_n 3, 1) := by decide +kernel
theorem dX7_hands_8 : decode cX7_hands 8 = .ok (.ifCond .eq 5, 3) := by decide +kernel
theorem dX7_hands_11 : decode cX7_hands 11 = .ok (.iload_n 3, 1) := by decide +kernel
theorem dX7_hands_12 : decode cX7_hands 12 = .ok (.ireturn, 1) := by decide +kernel
theorem dX7_hands_13 : decode cX7_hands 13 = .ok (.aload_n 0, 1) := by decide +kernel
theorem dX7_hands_14 : decode cX7_hands 14 = .ok (.getfield 28, 3) := by decide +kernel
theorem dX7_hands_17 : decode cX7_hands 17 = .ok (.aload_n 0, 1) := by decide +kernel
theorem dX7_hands_18 : decode cX7_hands 18 = .ok (.getfield 28, 3) := by decide +kernel
theorem dX7_hands_21 : decode cX7_hands 21 = .ok (.getfield 126, 3) := by decide +kernel
theorem dX7_hands_24 : decode cX7_hands 24 = .ok (.iload_n 1, 1) := by decide +kernel
theorem dX7_hands_25 : decode cX7_hands 25 = .ok (.aaload, 1) := by decide +kernel
theorem dX7_hands_26 : decode cX7_hands 26 = .ok (.invokevirtual 265, 3) := by decide +kernel
theorem dX7_hands_29 : decode cX7_hands 29 = .ok (.astore 4, 2) := by decide +kernel
theorem dX7_hands_31 : decode cX7_hands 31 = .ok (.iconst 0, 1) := by decide +kernel
theorem dX7_hands_32 : decode cX7_hands 32 = .ok (.istore 5, 2) := by decide +kernel
theorem dX7_hands_34 : decode cX7_hands 34 = .ok (.iconst 0, 1) := by decide +kernel
theorem dX7_hands_35 : decode cX7_hands 35 = .ok (.istore 6, 2) := by decide +kernel
theorem dX7_hands_37 : decode cX7_hands 37 = .ok (.iload 6, 2) := by decide +kernel
theorem dX7_hands_39 : decode cX7_hands 39 = .ok (.bipush 10, 2) := by decide +kernel
theorem dX7_hands_41 : decode cX7_hands 41 = .ok (.if_icmp .ge 47, 3) := by decide +kernel
theorem dX7_hands_44 : decode cX7_hands 44 = .ok (.aload 4, 2) := by decide +kernel
theorem dX7_hands_46 : decode cX7_hands 46 = .ok (.iload 6, 2) := by decide +kernel
theorem dX7_hands_48 : decode cX7_hands 48 = .ok (.putfield 268, 3) := by decide +kernel
theorem dX7_hands_51 : decode cX7_hands 51 = .ok (.iload 5, 2) := by decide +kernel
theorem dX7_hands_53 : decode cX7_hands 53 = .ok (.aload_n 0, 1) := by decide +kernel
theorem dX7_hands_54 : decode cX7_hands 54 = .ok (.getfield 28, 3) := by decide +kernel
theorem dX7_hands_57 : decode cX7_hands 57 = .ok (.aload 4, 2) := by decide +kernel
theorem dX7_hands_59 : decode cX7_hands 59 = .ok (.aload_n 0, 1) := by decide +kernel
theorem dX7_hands_60 : decode cX7_hands 60 = .ok (.getfield 11, 3) := by decide +kernel
theorem dX7_hands_63 : decode cX7_hands 63 = .ok (.iload_n 2, 1) := by decide +kernel
theorem dX7_hands_64 : decode cX7_hands 64 = .ok (.aaload, 1) := by decide +kernel
theorem dX7_hands_65 : decode cX7_hands 65 = .ok (.invokevirtual 271, 3) := by decide +kernel
theorem dX7_hands_68 : decode cX7_hands 68 = .ok (.ifCond .eq 10, 3) := by decide +kernel
theorem dX7_hands_71 : decode cX7_hands 71 = .ok (.iconst 1, 1) := by decide +kernel
theorem dX7_hands_72 : decode cX7_hands 72 = .ok (.iload 6, 2) := by decide +kernel
theorem dX7_hands_74 : decode cX7_hands 74 = .ok (.ishl, 1) := by decide +kernel
theorem dX7_hands_75 : decode cX7_hands 75 = .ok (.goto 4, 3) := by decide +kernel
theorem dX7_hands_78 : decode cX7_hands 78 = .ok (.iconst 0, 1) := by decide +kernel
theorem dX7_hands_79 : decode cX7_hands 79 = .ok (.ior, 1) := by decide +kernel
theorem dX7_hands_80 : decode cX7_hands 80 = .ok (.istore 5, 2) := by decide +kernel
theorem dX7_hands_82 : decode cX7_hands 82 = .ok (.iinc 6 1, 3) := by decide +kernel
theorem dX7_hands_85 : decode cX7_hands 85 = .ok (.goto (-48), 3) := by decide +kernel
theorem dX7_hands_88 : decode cX7_hands 88 = .ok (.iload 5, 2) := by decide +kernel
theorem dX7_hands_90 : decode cX7_hands 90 = .ok (.ireturn, 1) := by decide +kernel
theorem dX7_kinds_0 : decode cX7_kinds 0 = .ok (.aload_n 0, 1) := by decide +kernel
theorem dX7_kinds_1 : decode cX7_kinds 1 = .ok (.iload_n 1, 1) := by decide +kernel
theorem dX7_kinds_2 : decode cX7_kinds 2 = .ok (.iload_n 2, 1) := by decide +kernel
theorem dX7_kinds_3 : decode cX7_kinds 3 = .ok (.invokevirtual 262, 3) := by decide +kernel
theorem dX7_kinds_6 : decode cX7_kinds 6 = .ok (.istore_n 3, 1) := by decide +kernel
theorem dX7_kinds_7 : decode cX7_kinds 7 = .ok (.iload_n 3, 1) := by decide +kernel
theorem dX7_kinds_8 : decode cX7_kinds 8 = .ok (.ifCond .eq 5, 3) := by decide +kernel
theorem dX7_kinds_11 : decode cX7_kinds 11 = .ok (.iload_n 3, 1) := by decide +kernel
theorem dX7_kinds_12 : decode cX7_kinds 12 = .ok (.ireturn, 1) := by decide +kernel
theorem dX7_kinds_13 : decode cX7_kinds 13 = .ok (.aload_n 0, 1) := by decide +kernel
theorem dX7_kinds_14 : decode cX7_kinds 14 = .ok (.getfield 28, 3) := by decide +kernel
theorem dX7_kinds_17 : decode cX7_kinds 17 = .ok (.aload_n 0, 1) := by decide +kernel
theorem dX7_kinds_18 : decode cX7_kinds 18 = .ok (.getfield 28, 3) := by decide +kernel
theorem dX7_kinds_21 : decode cX7_kinds 21 = .ok (.getfield 126, 3) := by decide +kernel
theorem dX7_kinds_24 : decode cX7_kinds 24 = .ok (.iload_n 1, 1) := by decide +kernel
theorem dX7_kinds_25 : decode cX7_kinds 25 = .ok (.aaload, 1) := by decide +kernel
theorem dX7_kinds_26 : decode cX7_kinds 26 = .ok (.invokevirtual 265, 3) := by decide +kernel
theorem dX7_kinds_29 : decode cX7_kinds 29 = .ok (.astore 4, 2) := by decide +kernel
theorem dX7_kinds_31 : decode cX7_kinds 31 = .ok (.iconst 0, 1) := by decide +kernel
theorem dX7_kinds_32 : decode cX7_kinds 32 = .ok (.istore 5, 2) := by decide +kernel
theorem dX7_kinds_34 : decode cX7_kinds 34 = .ok (.iconst 0, 1) := by decide +kernel
theorem dX7_kinds_35 : decode cX7_kinds 35 = .ok (.istore 6, 2) := by decide +kernel
theorem dX7_kinds_37 : decode cX7_kinds 37 = .ok (.iload 6, 2) := by decide +kernel
theorem dX7_kinds_39 : decode cX7_kinds 39 = .ok (.bipush 6, 2) := by decide +kernel
theorem dX7_kinds_41 : decode cX7_kinds 41 = .ok (.if_icmp .ge 47, 3) := by decide +kernel
theorem dX7_kinds_44 : decode cX7_kinds 44 = .ok (.aload 4, 2) := by decide +kernel
theorem dX7_kinds_46 : decode cX7_kinds 46 = .ok (.iload 6, 2) := by decide +kernel
theorem dX7_kinds_48 : decode cX7_kinds 48 = .ok (.putfield 275, 3) := by decide +kernel
theorem dX7_kinds_51 : decode cX7_kinds 51 = .ok (.iload 5, 2) := by decide +kernel
theorem dX7_kinds_53 : decode cX7_kinds 53 = .ok (.aload_n 0, 1) := by decide +kernel
theorem dX7_kinds_54 : decode cX7_kinds 54 = .ok (.getfield 28, 3) := by decide +kernel
theorem dX7_kinds_57 : decode cX7_kinds 57 = .ok (.aload 4, 2) := by decide +kernel
theorem dX7_kinds_59 : decode cX7_kinds 59 = .ok (.aload_n 0, 1) := by decide +kernel
theorem dX7_kinds_60 : decode cX7_kinds 60 = .ok (.getfield 11, 3) := by decide +kernel
theorem dX7_kinds_63 : decode cX7_kinds 63 = .ok (.iload_n 2, 1) := by decide +kernel
theorem dX7_kinds_64 : decode cX7_kinds 64 = .ok (.aaload, 1) := by decide +kernel
theorem dX7_kinds_65 : decode cX7_kinds 65 = .ok (.invokevirtual 271, 3) := by decide +kernel
theorem dX7_kinds_68 : decode cX7_kinds 68 = .ok (.ifCond .eq 10, 3) := by decide +kernel
theorem dX7_kinds_71 : decode cX7_kinds 71 = .ok (.iconst 1, 1) := by decide +kernel
theorem dX7_kinds_72 : decode cX7_kinds 72 = .ok (.iload 6, 2) := by decide +kernel
theorem dX7_kinds_74 : decode cX7_kinds 74 = .ok (.ishl, 1) := by decide +kernel
theorem dX7_kinds_75 : decode cX7_kinds 75 = .ok (.goto 4, 3) := by decide +kernel
theorem dX7_kinds_78 : decode cX7_kinds 78 = .ok (.iconst 0, 1) := by decide +kernel
theorem dX7_kinds_79 : decode cX7_kinds 79 = .ok (.ior, 1) := by decide +kernel
theorem dX7_kinds_80 : decode cX7_kinds 80 = .ok (.istore 5, 2) := by decide +kernel
theorem dX7_kinds_82 : decode cX7_kinds 82 = .ok (.iinc 6 1, 3) := by decide +kernel
theorem dX7_kinds_85 : decode cX7_kinds 85 = .ok (.goto (-48), 3) := by decide +kernel
theorem dX7_kinds_88 : decode cX7_kinds 88 = .ok (.iload 5, 2) := by decide +kernel
theorem dX7_kinds_90 : decode cX7_kinds 90 = .ok (.ireturn, 1) := by decide +kernel
theorem dX7_duel_0 : decode cX7_duel 0 = .ok (.iload_n 1, 1) := by decide +kernel
theorem dX7_duel_1 : decode cX7_duel 1 = .ok (.ifCond .lt 9, 3) := by decide +kernel
theorem dX7_duel_4 : decode cX7_duel 4 = .ok (.iload_n 1, 1) := by decide +kernel
theorem dX7_duel_5 : decode cX7_duel 5 = .ok (.bipush 6, 2) := by decide +kernel
theorem dX7_duel_7 : decode cX7_duel 7 = .ok (.if_icmp .le 5, 3) := by decide +kernel
theorem dX7_duel_10 : decode cX7_duel 10 = .ok (.iconst (-1), 1) := by decide +kernel
theorem dX7_duel_11 : decode cX7_duel 11 = .ok (.ireturn, 1) := by decide +kernel
theorem dX7_duel_12 : decode cX7_duel 12 = .ok (.aload_n 0, 1) := by decide +kernel
theorem dX7_duel_13 : decode cX7_duel 13 = .ok (.getfield 28, 3) := by decide +kernel
theorem dX7_duel_16 : decode cX7_duel 16 = .ok (.getfield 121, 3) := by decide +kernel
theorem dX7_duel_19 : decode cX7_duel 19 = .ok (.ifCond .ne 6, 3) := by decide +kernel
theorem dX7_duel_22 : decode cX7_duel 22 = .ok (.bipush (-4), 2) := by decide +kernel
theorem dX7_duel_24 : decode cX7_duel 24 = .ok (.ireturn, 1) := by decide +kernel
theorem dX7_duel_25 : decode cX7_duel 25 = .ok (.aload_n 0, 1) := by decide +kernel
theorem dX7_duel_26 : decode cX7_duel 26 = .ok (.getfield 48, 3) := by decide +kernel
theorem dX7_duel_29 : decode cX7_duel 29 = .ok (.aload_n 0, 1) := by decide +kernel
theorem dX7_duel_30 : decode cX7_duel 30 = .ok (.getfield 28, 3) := by decide +kernel
theorem dX7_duel_33 : decode cX7_duel 33 = .ok (.iload_n 1, 1) := by decide +kernel
theorem dX7_duel_34 : decode cX7_duel 34 = .ok (.invokevirtual 278, 3) := by decide +kernel
theorem dX7_duel_37 : decode cX7_duel 37 = .ok (.ireturn, 1) := by decide +kernel
theorem dX7_odds_0 : decode cX7_odds 0 = .ok (.aload_n 0, 1) := by decide +kernel
theorem dX7_odds_1 : decode cX7_odds 1 = .ok (.iload_n 1, 1) := by decide +kernel
theorem dX7_odds_2 : decode cX7_odds 2 = .ok (.invokevirtual 282, 3) := by decide +kernel
theorem dX7_odds_5 : decode cX7_odds 5 = .ok (.istore_n 2, 1) := by decide +kernel
theorem dX7_odds_6 : decode cX7_odds 6 = .ok (.iload_n 2, 1) := by decide +kernel
theorem dX7_odds_7 : decode cX7_odds 7 = .ok (.ifCond .eq 5, 3) := by decide +kernel
theorem dX7_odds_10 : decode cX7_odds 10 = .ok (.iload_n 2, 1) := by decide +kernel
theorem dX7_odds_11 : decode cX7_odds 11 = .ok (.ireturn, 1) := by decide +kernel
theorem dX7_odds_12 : decode cX7_odds 12 = .ok (.lconst 1, 1) := by decide +kernel
theorem dX7_odds_13 : decode cX7_odds 13 = .ok (.lstore_n 3, 1) := by decide +kernel
theorem dX7_odds_14 : decode cX7_odds 14 = .ok (.lconst 1, 1) := by decide +kernel
theorem dX7_odds_15 : decode cX7_odds 15 = .ok (.lstore 5, 2) := by decide +kernel
theorem dX7_odds_17 : decode cX7_odds 17 = .ok (.iconst 0, 1) := by decide +kernel
theorem dX7_odds_18 : decode cX7_odds 18 = .ok (.istore 7, 2) := by decide +kernel
theorem dX7_odds_20 : decode cX7_odds 20 = .ok (.iload 7, 2) := by decide +kernel
theorem dX7_odds_22 : decode cX7_odds 22 = .ok (.aload_n 0, 1) := by decide +kernel
theorem dX7_odds_23 : decode cX7_odds 23 = .ok (.getfield 28, 3) := by decide +kernel
theorem dX7_odds_26 : decode cX7_odds 26 = .ok (.getfield 121, 3) := by decide +kernel
theorem dX7_odds_29 : decode cX7_odds 29 = .ok (.if_icmp .ge 55, 3) := by decide +kernel
theorem dX7_odds_32 : decode cX7_odds 32 = .ok (.aload_n 0, 1) := by decide +kernel
theorem dX7_odds_33 : decode cX7_odds 33 = .ok (.getfield 28, 3) := by decide +kernel
theorem dX7_odds_36 : decode cX7_odds 36 = .ok (.getfield 126, 3) := by decide +kernel
theorem dX7_odds_39 : decode cX7_odds 39 = .ok (.iload 7, 2) := by decide +kernel
theorem dX7_odds_41 : decode cX7_odds 41 = .ok (.aaload, 1) := by decide +kernel
theorem dX7_odds_42 : decode cX7_odds 42 = .ok (.astore 8, 2) := by decide +kernel
theorem dX7_odds_44 : decode cX7_odds 44 = .ok (.aload_n 0, 1) := by decide +kernel
theorem dX7_odds_45 : decode cX7_odds 45 = .ok (.getfield 28, 3) := by decide +kernel
theorem dX7_odds_48 : decode cX7_odds 48 = .ok (.aload 8, 2) := by decide +kernel
theorem dX7_odds_50 : decode cX7_odds 50 = .ok (.invokevirtual 241, 3) := by decide +kernel
theorem dX7_odds_53 : decode cX7_odds 53 = .ok (.ifCond .eq 25, 3) := by decide +kernel
theorem dX7_odds_56 : decode cX7_odds 56 = .ok (.lload_n 3, 1) := by decide +kernel
theorem dX7_odds_57 : decode cX7_odds 57 = .ok (.aload_n 0, 1) := by decide +kernel
theorem dX7_odds_58 : decode cX7_odds 58 = .ok (.getfield 28, 3) := by decide +kernel
theorem dX7_odds_61 : decode cX7_odds 61 = .ok (.aload 8, 2) := by decide +kernel
theorem dX7_odds_63 : decode cX7_odds 63 = .ok (.iload_n 1, 1) := by decide +kernel
theorem dX7_odds_64 : decode cX7_odds 64 = .ok (.invokevirtual 285, 3) := by decide +kernel
theorem dX7_odds_67 : decode cX7_odds 67 = .ok (.i2l, 1) := by decide +kernel
theorem dX7_odds_68 : decode cX7_odds 68 = .ok (.lmul, 1) := by decide +kernel
theorem dX7_odds_69 : decode cX7_odds 69 = .ok (.lstore_n 3, 1) := by decide +kernel
theorem dX7_odds_70 : decode cX7_odds 70 = .ok (.lload 5, 2) := by decide +kernel
theorem dX7_odds_72 : decode cX7_odds 72 = .ok (.ldc2_w 288, 3) := by decide +kernel
theorem dX7_odds_75 : decode cX7_odds 75 = .ok (.lmul, 1) := by decide +kernel
theorem dX7_odds_76 : decode cX7_odds 76 = .ok (.lstore 5, 2) := by decide +kernel
theorem dX7_odds_78 : decode cX7_odds 78 = .ok (.iinc 7 1, 3) := by decide +kernel
theorem dX7_odds_81 : decode cX7_odds 81 = .ok (.goto (-61), 3) := by decide +kernel
theorem dX7_odds_84 : decode cX7_odds 84 = .ok (.aload_n 0, 1) := by decide +kernel
theorem dX7_odds_85 : decode cX7_odds 85 = .ok (.lload_n 3, 1) := by decide +kernel
theorem dX7_odds_86 : decode cX7_odds 86 = .ok (.lload 5, 2) := by decide +kernel
theorem dX7_odds_88 : decode cX7_odds 88 = .ok (.invokevirtual 217, 3) := by decide +kernel
theorem dX7_odds_91 : decode cX7_odds 91 = .ok (.iconst 1, 1) := by decide +kernel
theorem dX7_odds_92 : decode cX7_odds 92 = .ok (.ireturn, 1) := by decide +kernel
theorem dX7_mid_0 : decode cX7_mid 0 = .ok (.aload_n 0, 1) := by decide +kernel
theorem dX7_mid_1 : decode cX7_mid 1 = .ok (.iload_n 1, 1) := by decide +kernel
theorem dX7_mid_2 : decode cX7_mid 2 = .ok (.invokevirtual 282, 3) := by decide +kernel
theorem dX7_mid_5 : decode cX7_mid 5 = .ok (.istore_n 2, 1) := by decide +kernel
theorem dX7_mid_6 : decode cX7_mid 6 = .ok (.iload_n 2, 1) := by decide +kernel
theorem dX7_mid_7 : decode cX7_mid 7 = .ok (.ifCond .eq 5, 3) := by decide +kernel
theorem dX7_mid_10 : decode cX7_mid 10 = .ok (.iload_n 2, 1) := by decide +kernel
theorem dX7_mid_11 : decode cX7_mid 11 = .ok (.ireturn, 1) := by decide +kernel
theorem dX7_mid_12 : decode cX7_mid 12 = .ok (.lconst 0, 1) := by decide +kernel
theorem dX7_mid_13 : decode cX7_mid 13 = .ok (.lstore_n 3, 1) := by decide +kernel
theorem dX7_mid_14 : decode cX7_mid 14 = .ok (.iconst 0, 1) := by decide +kernel
theorem dX7_mid_15 : decode cX7_mid 15 = .ok (.istore 5, 2) := by decide +kernel
theorem dX7_mid_17 : decode cX7_mid 17 = .ok (.iload 5, 2) := by decide +kernel
theorem dX7_mid_19 : decode cX7_mid 19 = .ok (.aload_n 0, 1) := by decide +kernel
theorem dX7_mid_20 : decode cX7_mid 20 = .ok (.getfield 28, 3) := by decide +kernel
theorem dX7_mid_23 : decode cX7_mid 23 = .ok (.getfield 121, 3) := by decide +kernel
theorem dX7_mid_26 : decode cX7_mid 26 = .ok (.if_icmp .ge 58, 3) := by decide +kernel
theorem dX7_mid_29 : decode cX7_mid 29 = .ok (.aload_n 0, 1) := by decide +kernel
theorem dX7_mid_30 : decode cX7_mid 30 = .ok (.getfield 28, 3) := by decide +kernel
theorem dX7_mid_33 : decode cX7_mid 33 = .ok (.getfield 126, 3) := by decide +kernel
theorem dX7_mid_36 : decode cX7_mid 36 = .ok (.iload 5, 2) := by decide +kernel
theorem dX7_mid_38 : decode cX7_mid 38 = .ok (.aaload, 1) := by decide +kernel
theorem dX7_mid_39 : decode cX7_mid 39 = .ok (.astore 6, 2) := by decide +kernel
theorem dX7_mid_41 : decode cX7_mid 41 = .ok (.aload 6, 2) := by decide +kernel
theorem dX7_mid_43 : decode cX7_mid 43 = .ok (.invokevirtual 180, 3) := by decide +kernel
theorem dX7_mid_46 : decode cX7_mid 46 = .ok (.ifCond .ne 32, 3) := by decide +kernel
theorem dX7_mid_49 : decode cX7_mid 49 = .ok (.aload 6, 2) := by decide +kernel
theorem dX7_mid_51 : decode cX7_mid 51 = .ok (.aload_n 0, 1) := by decide +kernel
theorem dX7_mid_52 : decode cX7_mid 52 = .ok (.getfield 28, 3) := by decide +kernel
theorem dX7_mid_55 : decode cX7_mid 55 = .ok (.getfield 151, 3) := by decide +kernel
theorem dX7_mid_58 : decode cX7_mid 58 = .ok (.invokevirtual 290, 3) := by decide +kernel
theorem dX7_mid_61 : decode cX7_mid 61 = .ok (.ifCond .eq 17, 3) := by decide +kernel
theorem dX7_mid_64 : decode cX7_mid 64 = .ok (.lload_n 3, 1) := by decide +kernel
theorem dX7_mid_65 : decode cX7_mid 65 = .ok (.aload_n 0, 1) := by decide +kernel
theorem dX7_mid_66 : decode cX7_mid 66 = .ok (.getfield 28, 3) := by decide +kernel
theorem dX7_mid_69 : decode cX7_mid 69 = .ok (.aload 6, 2) := by decide +kernel
theorem dX7_mid_71 : decode cX7_mid 71 = .ok (.iload_n 1, 1) := by decide +kernel
theorem dX7_mid_72 : decode cX7_mid 72 = .ok (.invokevirtual 285, 3) := by decide +kernel
theorem dX7_mid_75 : decode cX7_mid 75 = .ok (.i2l, 1) := by decide +kernel
theorem dX7_mid_76 : decode cX7_mid 76 = .ok (.ladd, 1) := by decide +kernel
theorem dX7_mid_77 : decode cX7_mid 77 = .ok (.lstore_n 3, 1) := by decide +kernel
theorem dX7_mid_78 : decode cX7_mid 78 = .ok (.iinc 5 1, 3) := by decide +kernel
theorem dX7_mid_81 : decode cX7_mid 81 = .ok (.goto (-64), 3) := by decide +kernel
theorem dX7_mid_84 : decode cX7_mid 84 = .ok (.aload_n 0, 1) := by decide +kernel
theorem dX7_mid_85 : decode cX7_mid 85 = .ok (.lload_n 3, 1) := by decide +kernel
theorem dX7_mid_86 : decode cX7_mid 86 = .ok (.ldc2_w 288, 3) := by decide +kernel
theorem dX7_mid_89 : decode cX7_mid 89 = .ok (.invokevirtual 217, 3) := by decide +kernel
theorem dX7_mid_92 : decode cX7_mid 92 = .ok (.iconst 1, 1) := by decide +kernel
theorem dX7_mid_93 : decode cX7_mid 93 = .ok (.ireturn, 1) := by decide +kernel
theorem dX7_lots_0 : decode cX7_lots 0 = .ok (.iload_n 1, 1) := by decide +kernel
theorem dX7_lots_1 : decode cX7_lots 1 = .ok (.iconst 1, 1) := by decide +kernel
theorem dX7_lots_2 : decode cX7_lots 2 = .ok (.if_icmp .lt 21, 3) := by decide +kernel
theorem dX7_lots_5 : decode cX7_lots 5 = .ok (.iload_n 1, 1) := by decide +kernel
theorem dX7_lots_6 : decode cX7_lots 6 = .ok (.bipush 20, 2) := by decide +kernel
theorem dX7_lots_8 : decode cX7_lots 8 = .ok (.if_icmp .gt 15, 3) := by decide +kernel
theorem dX7_lots_11 : decode cX7_lots 11 = .ok (.iload_n 2, 1) := by decide +kernel
theorem dX7_lots_12 : decode cX7_lots 12 = .ok (.iconst 1, 1) := by decide +kernel
theorem dX7_lots_13 : decode cX7_lots 13 = .ok (.if_icmp .lt 10, 3) := by decide +kernel
theorem dX7_lots_16 : decode cX7_lots 16 = .ok (.iload_n 2, 1) := by decide +kernel
theorem dX7_lots_17 : decode cX7_lots 17 = .ok (.ldc_w 293, 3) := by decide +kernel
theorem dX7_lots_20 : decode cX7_lots 20 = .ok (.if_icmp .le 5, 3) := by decide +kernel
theorem dX7_lots_23 : decode cX7_lots 23 = .ok (.iconst (-1), 1) := by decide +kernel
theorem dX7_lots_24 : decode cX7_lots 24 = .ok (.ireturn, 1) := by decide +kernel
theorem dX7_lots_25 : decode cX7_lots 25 = .ok (.aload_n 0, 1) := by decide +kernel
theorem dX7_lots_26 : decode cX7_lots 26 = .ok (.getfield 28, 3) := by decide +kernel
theorem dX7_lots_29 : decode cX7_lots 29 = .ok (.getfield 121, 3) := by decide +kernel
theorem dX7_lots_32 : decode cX7_lots 32 = .ok (.ifCond .ne 6, 3) := by decide +kernel
theorem dX7_lots_35 : decode cX7_lots 35 = .ok (.bipush (-4), 2) := by decide +kernel
theorem dX7_lots_37 : decode cX7_lots 37 = .ok (.ireturn, 1) := by decide +kernel
theorem dX7_lots_38 : decode cX7_lots 38 = .ok (.aload_n 0, 1) := by decide +kernel
theorem dX7_lots_39 : decode cX7_lots 39 = .ok (.getfield 28, 3) := by decide +kernel
theorem dX7_lots_42 : decode cX7_lots 42 = .ok (.getfield 166, 3) := by decide +kernel
theorem dX7_lots_45 : decode cX7_lots 45 = .ok (.iload_n 1, 1) := by decide +kernel
theorem dX7_lots_46 : decode cX7_lots 46 = .ok (.invokevirtual 170, 3) := by decide +kernel
theorem dX7_lots_49 : decode cX7_lots 49 = .ok (.ifCond .ne 6, 3) := by decide +kernel
theorem dX7_lots_52 : decode cX7_lots 52 = .ok (.bipush (-2), 2) := by decide +kernel
theorem dX7_lots_54 : decode cX7_lots 54 = .ok (.ireturn, 1) := by decide +kernel
theorem dX7_lots_55 : decode cX7_lots 55 = .ok (.aload_n 0, 1) := by decide +kernel
theorem dX7_lots_56 : decode cX7_lots 56 = .ok (.getfield 28, 3) := by decide +kernel
theorem dX7_lots_59 : decode cX7_lots 59 = .ok (.invokevirtual 294, 3) := by decide +kernel
theorem dX7_lots_62 : decode cX7_lots 62 = .ok (.istore_n 3, 1) := by decide +kernel
theorem dX7_lots_63 : decode cX7_lots 63 = .ok (.iload_n 2, 1) := by decide +kernel
theorem dX7_lots_64 : decode cX7_lots 64 = .ok (.i2l, 1) := by decide +kernel
theorem dX7_lots_65 : decode cX7_lots 65 = .ok (.lstore 4, 2) := by decide +kernel
theorem dX7_lots_67 : decode cX7_lots 67 = .ok (.iconst 0, 1) := by decide +kernel
theorem dX7_lots_68 : decode cX7_lots 68 = .ok (.istore 6, 2) := by decide +kernel
theorem dX7_lots_70 : decode cX7_lots 70 = .ok (.iload 6, 2) := by decide +kernel
theorem dX7_lots_72 : decode cX7_lots 72 = .ok (.iload_n 1, 1) := by decide +kernel
theorem dX7_lots_73 : decode cX7_lots 73 = .ok (.if_icmp .ge 93, 3) := by decide +kernel
theorem dX7_lots_76 : decode cX7_lots 76 = .ok (.lload 4, 2) := by decide +kernel
theorem dX7_lots_78 : decode cX7_lots 78 = .ok (.ldc2_w 297, 3) := by decide +kernel
theorem dX7_lots_81 : decode cX7_lots 81 = .ok (.lmul, 1) := by decide +kernel
theorem dX7_lots_82 : decode cX7_lots 82 = .ok (.ldc2_w 299, 3) := by decide +kernel
theorem dX7_lots_85 : decode cX7_lots 85 = .ok (.lrem, 1) := by decide +kernel
theorem dX7_lots_86 : decode cX7_lots 86 = .ok (.lstore 4, 2) := by decide +kernel
theorem dX7_lots_88 : decode cX7_lots 88 = .ok (.lload 4, 2) := by decide +kernel
theorem dX7_lots_90 : decode cX7_lots 90 = .ok (.ldc2_w 301, 3) := by decide +kernel
theorem dX7_lots_93 : decode cX7_lots 93 = .ok (.ldiv, 1) := by decide +kernel
theorem dX7_lots_94 : decode cX7_lots 94 = .ok (.l2i, 1) := by decide +kernel
theorem dX7_lots_95 : decode cX7_lots 95 = .ok (.istore 7, 2) := by decide +kernel
theorem dX7_lots_97 : decode cX7_lots 97 = .ok (.lload 4, 2) := by decide +kernel
theorem dX7_lots_99 : decode cX7_lots 99 = .ok (.ldc2_w 303, 3) := by decide +kernel
theorem dX7_lots_102 : decode cX7_lots 102 = .ok (.lrem, 1) := by decide +kernel
theorem dX7_lots_103 : decode cX7_lots 103 = .ok (.lconst 0, 1) := by decide +kernel
theorem dX7_lots_104 : decode cX7_lots 104 = .ok (.lcmp, 1) := by decide +kernel
theorem dX7_lots_105 : decode cX7_lots 105 = .ok (.ifCond .ne 21, 3) := by decide +kernel
theorem dX7_lots_108 : decode cX7_lots 108 = .ok (.aload_n 0, 1) := by decide +kernel
theorem dX7_lots_109 : decode cX7_lots 109 = .ok (.getfield 28, 3) := by decide +kernel
theorem dX7_lots_112 : decode cX7_lots 112 = .ok (.iconst 0, 1) := by decide +kernel
theorem dX7_lots_113 : decode cX7_lots 113 = .ok (.iload 7, 2) := by decide +kernel
theorem dX7_lots_115 : decode cX7_lots 115 = .ok (.bipush 11, 2) := by decide +kernel
theorem dX7_lots_117 : decode cX7_lots 117 = .ok (.irem, 1) := by decide +kernel
theorem dX7_lots_118 : decode cX7_lots 118 = .ok (.iconst 5, 1) := by decide +kernel
theorem dX7_lots_119 : decode cX7_lots 119 = .ok (.isub, 1) := by decide +kernel
theorem dX7_lots_120 : decode cX7_lots 120 = .ok (.invokevirtual 173, 3) := by decide +kernel
theorem dX7_lots_123 : decode cX7_lots 123 = .ok (.goto 37, 3) := by decide +kernel
theorem dX7_lots_126 : decode cX7_lots 126 = .ok (.iload 7, 2) := by decide +kernel
theorem dX7_lots_128 : decode cX7_lots 128 = .ok (.aload_n 0, 1) := by decide +kernel
theorem dX7_lots_129 : decode cX7_lots 129 = .ok (.getfield 28, 3) := by decide +kernel
theorem dX7_lots_132 : decode cX7_lots 132 = .ok (.getfield 121, 3) := by decide +kernel
theorem dX7_lots_135 : decode cX7_lots 135 = .ok (.irem, 1) := by decide +kernel
theorem dX7_lots_136 : decode cX7_lots 136 = .ok (.istore 8, 2) := by decide +kernel
theorem dX7_lots_138 : decode cX7_lots 138 = .ok (.aload_n 0, 1) := by decide +kernel
theorem dX7_lots_139 : decode cX7_lots 139 = .ok (.getfield 28, 3) := by decide +kernel
theorem dX7_lots_142 : decode cX7_lots 142 = .ok (.aload_n 0, 1) := by decide +kernel
theorem dX7_lots_143 : decode cX7_lots 143 = .ok (.getfield 28, 3) := by decide +kernel
theorem dX7_lots_146 : decode cX7_lots 146 = .ok (.getfield 126, 3) := by decide +kernel
theorem dX7_lots_149 : decode cX7_lots 149 = .ok (.iload 8, 2) := by decide +kernel
theorem dX7_lots_151 : decode cX7_lots 151 = .ok (.aaload, 1) := by decide +kernel
theorem dX7_lots_152 : decode cX7_lots 152 = .ok (.invokevirtual 305, 3) := by decide +kernel
theorem dX7_lots_155 : decode cX7_lots 155 = .ok (.iload 8, 2) := by decide +kernel
theorem dX7_lots_157 : decode cX7_lots 157 = .ok (.invokevirtual 173, 3) := by decide +kernel
theorem dX7_lots_160 : decode cX7_lots 160 = .ok (.iinc 6 1, 3) := by decide +kernel
theorem dX7_lots_163 : decode cX7_lots 163 = .ok (.goto (-93), 3) := by decide +kernel
theorem dX7_lots_166 : decode cX7_lots 166 = .ok (.aload_n 0, 1) := by decide +kernel
theorem dX7_lots_167 : decode cX7_lots 167 = .ok (.getfield 28, 3) := by decide +kernel
theorem dX7_lots_170 : decode cX7_lots 170 = .ok (.invokevirtual 294, 3) := by decide +kernel
theorem dX7_lots_173 : decode cX7_lots 173 = .ok (.iload_n 3, 1) := by decide +kernel
theorem dX7_lots_174 : decode cX7_lots 174 = .ok (.isub, 1) := by decide +kernel
theorem dX7_lots_175 : decode cX7_lots 175 = .ok (.ireturn, 1) := by decide +kernel
theorem dX7_asked_0 : decode cX7_asked 0 = .ok (.aload_n 0, 1) := by decide +kernel
theorem dX7_asked_1 : decode cX7_asked 1 = .ok (.getfield 75, 3) := by decide +kernel
theorem dX7_asked_4 : decode cX7_asked 4 = .ok (.ireturn, 1) := by decide +kernel
theorem dX7_upper_0 : decode cX7_upper 0 = .ok (.aload_n 0, 1) := by decide +kernel
theorem dX7_upper_1 : decode cX7_upper 1 = .ok (.getfield 308, 3) := by decide +kernel
theorem dX7_upper_4 : decode cX7_upper 4 = .ok (.lreturn, 1) := by decide +kernel
theorem dX7_lower_0 : decode cX7_lower 0 = .ok (.aload_n 0, 1) := by decide +kernel
theorem dX7_lower_1 : decode cX7_lower 1 = .ok (.getfield 56, 3) := by decide +kernel
theorem dX7_lower_4 : decode cX7_lower 4 = .ok (.lreturn, 1) := by decide +kernel
theorem dX7_count_0 : decode cX7_count 0 = .ok (.iload_n 1, 1) := by decide +kernel
theorem dX7_count_1 : decode cX7_count 1 = .ok (.tableswitch 147 0 10 #[59, 67, 75, 86, 94, 102, 110, 118, 126, 134, 142], 59) := by decide +kernel
theorem dX7_count_60 : decode cX7_count 60 = .ok (.aload_n 0, 1) := by decide +kernel
theorem dX7_count_61 : decode cX7_count 61 = .ok (.getfield 28, 3) := by decide +kernel
theorem dX7_count_64 : decode cX7_count 64 = .ok (.getfield 121, 3) := by decide +kernel
theorem dX7_count_67 : decode cX7_count 67 = .ok (.ireturn, 1) := by decide +kernel
theorem dX7_count_68 : decode cX7_count 68 = .ok (.aload_n 0, 1) := by decide +kernel
theorem dX7_count_69 : decode cX7_count 69 = .ok (.getfield 28, 3) := by decide +kernel
theorem dX7_count_72 : decode cX7_count 72 = .ok (.getfield 151, 3) := by decide +kernel
theorem dX7_count_75 : decode cX7_count 75 = .ok (.ireturn, 1) := by decide +kernel
theorem dX7_count_76 : decode cX7_count 76 = .ok (.aload_n 0, 1) := by decide +kernel
theorem dX7_count_77 : decode cX7_count 77 = .ok (.getfield 28, 3) := by decide +kernel
theorem dX7_count_80 : decode cX7_count 80 = .ok (.getfield 166, 3) := by decide +kernel
theorem dX7_count_83 : decode cX7_count 83 = .ok (.getfield 120, 3) := by decide +kernel
theorem dX7_count_86 : decode cX7_count 86 = .ok (.ireturn, 1) := by decide +kernel
theorem dX7_count_87 : decode cX7_count 87 = .ok (.aload_n 0, 1) := by decide +kernel
theorem dX7_count_88 : decode cX7_count 88 = .ok (.getfield 28, 3) := by decide +kernel
theorem dX7_count_91 : decode cX7_count 91 = .ok (.invokevirtual 311, 3) := by decide +kernel
theorem dX7_count_94 : decode cX7_count 94 = .ok (.ireturn, 1) := by decide +kernel
theorem dX7_count_95 : decode cX7_count 95 = .ok (.aload_n 0, 1) := by decide +kernel
theorem dX7_count_96 : decode cX7_count 96 = .ok (.getfield 28, 3) := by decide +kernel
theorem dX7_count_99 : decode cX7_count 99 = .ok (.invokevirtual 231, 3) := by decide +kernel
theorem dX7_count_102 : decode cX7_count 102 = .ok (.ireturn, 1) := by decide +kernel
theorem dX7_count_103 : decode cX7_count 103 = .ok (.aload_n 0, 1) := by decide +kernel
theorem dX7_count_104 : decode cX7_count 104 = .ok (.getfield 28, 3) := by decide +kernel
theorem dX7_count_107 : decode cX7_count 107 = .ok (.invokevirtual 294, 3) := by decide +kernel
theorem dX7_count_110 : decode cX7_count 110 = .ok (.ireturn, 1) := by decide +kernel
theorem dX7_count_111 : decode cX7_count 111 = .ok (.aload_n 0, 1) := by decide +kernel
theorem dX7_count_112 : decode cX7_count 112 = .ok (.getfield 28, 3) := by decide +kernel
theorem dX7_count_115 : decode cX7_count 115 = .ok (.invokevirtual 314, 3) := by decide +kernel
theorem dX7_count_118 : decode cX7_count 118 = .ok (.ireturn, 1) := by decide +kernel
theorem dX7_count_119 : decode cX7_count 119 = .ok (.aload_n 0, 1) := by decide +kernel
theorem dX7_count_120 : decode cX7_count 120 = .ok (.getfield 28, 3) := by decide +kernel
theorem dX7_count_123 : decode cX7_count 123 = .ok (.invokevirtual 317, 3) := by decide +kernel
theorem dX7_count_126 : decode cX7_count 126 = .ok (.ireturn, 1) := by decide +kernel
theorem dX7_count_127 : decode cX7_count 127 = .ok (.aload_n 0, 1) := by decide +kernel
theorem dX7_count_128 : decode cX7_count 128 = .ok (.getfield 11, 3) := by decide +kernel
theorem dX7_count_131 : decode cX7_count 131 = .ok (.invokestatic 320, 3) := by decide +kernel
theorem dX7_count_134 : decode cX7_count 134 = .ok (.ireturn, 1) := by decide +kernel
theorem dX7_count_135 : decode cX7_count 135 = .ok (.aload_n 0, 1) := by decide +kernel
theorem dX7_count_136 : decode cX7_count 136 = .ok (.getfield 15, 3) := by decide +kernel
theorem dX7_count_139 : decode cX7_count 139 = .ok (.invokestatic 320, 3) := by decide +kernel
theorem dX7_count_142 : decode cX7_count 142 = .ok (.ireturn, 1) := by decide +kernel
theorem dX7_count_143 : decode cX7_count 143 = .ok (.aload_n 0, 1) := by decide +kernel
theorem dX7_count_144 : decode cX7_count 144 = .ok (.invokevirtual 324, 3) := by decide +kernel
theorem dX7_count_147 : decode cX7_count 147 = .ok (.ireturn, 1) := by decide +kernel
theorem dX7_count_148 : decode cX7_count 148 = .ok (.iconst (-1), 1) := by decide +kernel
theorem dX7_count_149 : decode cX7_count 149 = .ok (.ireturn, 1) := by decide +kernel
theorem dX7_finding_0 : decode cX7_finding 0 = .ok (.aload_n 0, 1) := by decide +kernel
theorem dX7_finding_1 : decode cX7_finding 1 = .ok (.getfield 327, 3) := by decide +kernel
theorem dX7_finding_4 : decode cX7_finding 4 = .ok (.ireturn, 1) := by decide +kernel
theorem dX7_findings_0 : decode cX7_findings 0 = .ok (.iload_n 1, 1) := by decide +kernel
theorem dX7_findings_1 : decode cX7_findings 1 = .ok (.iconst 1, 1) := by decide +kernel
theorem dX7_findings_2 : decode cX7_findings 2 = .ok (.if_icmp .lt 8, 3) := by decide +kernel
theorem dX7_findings_5 : decode cX7_findings 5 = .ok (.iload_n 1, 1) := by decide +kernel
theorem dX7_findings_6 : decode cX7_findings 6 = .ok (.iconst 5, 1) := by decide +kernel
theorem dX7_findings_7 : decode cX7_findings 7 = .ok (.if_icmp .le 5, 3) := by decide +kernel
theorem dX7_findings_10 : decode cX7_findings 10 = .ok (.iconst (-1), 1) := by decide +kernel
theorem dX7_findings_11 : decode cX7_findings 11 = .ok (.ireturn, 1) := by decide +kernel
theorem dX7_findings_12 : decode cX7_findings 12 = .ok (.aload_n 0, 1) := by decide +kernel
theorem dX7_findings_13 : decode cX7_findings 13 = .ok (.getfield 52, 3) := by decide +kernel
theorem dX7_findings_16 : decode cX7_findings 16 = .ok (.iload_n 1, 1) := by decide +kernel
theorem dX7_findings_17 : decode cX7_findings 17 = .ok (.iaload, 1) := by decide +kernel
theorem dX7_findings_18 : decode cX7_findings 18 = .ok (.ireturn, 1) := by decide +kernel
theorem dX7_digest_0 : decode cX7_digest 0 = .ok (.ldc2_w 330, 3) := by decide +kernel
theorem dX7_digest_3 : decode cX7_digest 3 = .ok (.lstore_n 1, 1) := by decide +kernel
theorem dX7_digest_4 : decode cX7_digest 4 = .ok (.iconst 0, 1) := by decide +kernel
theorem dX7_digest_5 : decode cX7_digest 5 = .ok (.istore_n 3, 1) := by decide +kernel
theorem dX7_digest_6 : decode cX7_digest 6 = .ok (.iload_n 3, 1) := by decide +kernel
theorem dX7_digest_7 : decode cX7_digest 7 = .ok (.bipush 11, 2) := by decide +kernel
theorem dX7_digest_9 : decode cX7_digest 9 = .ok (.if_icmp .ge 22, 3) := by decide +kernel
theorem dX7_digest_12 : decode cX7_digest 12 = .ok (.ldc2_w 332, 3) := by decide +kernel
theorem dX7_digest_15 : decode cX7_digest 15 = .ok (.lload_n 1, 1) := by decide +kernel
theorem dX7_digest_16 : decode cX7_digest 16 = .ok (.lmul, 1) := by decide +kernel
theorem dX7_digest_17 : decode cX7_digest 17 = .ok (.aload_n 0, 1) := by decide +kernel
theorem dX7_digest_18 : decode cX7_digest 18 = .ok (.iload_n 3, 1) := by decide +kernel
theorem dX7_digest_19 : decode cX7_digest 19 = .ok (.invokevirtual 334, 3) := by decide +kernel
theorem dX7_digest_22 : decode cX7_digest 22 = .ok (.i2l, 1) := by decide +kernel
theorem dX7_digest_23 : decode cX7_digest 23 = .ok (.ladd, 1) := by decide +kernel
theorem dX7_digest_24 : decode cX7_digest 24 = .ok (.lstore_n 1, 1) := by decide +kernel
theorem dX7_digest_25 : decode cX7_digest 25 = .ok (.iinc 3 1, 3) := by decide +kernel
theorem dX7_digest_28 : decode cX7_digest 28 = .ok (.goto (-22), 3) := by decide +kernel
theorem dX7_digest_31 : decode cX7_digest 31 = .ok (.iconst 0, 1) := by decide +kernel
theorem dX7_digest_32 : decode cX7_digest 32 = .ok (.istore_n 3, 1) := by decide +kernel
theorem dX7_digest_33 : decode cX7_digest 33 = .ok (.iload_n 3, 1) := by decide +kernel
theorem dX7_digest_34 : decode cX7_digest 34 = .ok (.aload_n 0, 1) := by decide +kernel
theorem dX7_digest_35 : decode cX7_digest 35 = .ok (.getfield 28, 3) := by decide +kernel
theorem dX7_digest_38 : decode cX7_digest 38 = .ok (.getfield 121, 3) := by decide +kernel
theorem dX7_digest_41 : decode cX7_digest 41 = .ok (.if_icmp .ge 51, 3) := by decide +kernel
theorem dX7_digest_44 : decode cX7_digest 44 = .ok (.iconst 0, 1) := by decide +kernel
theorem dX7_digest_45 : decode cX7_digest 45 = .ok (.istore 4, 2) := by decide +kernel
theorem dX7_digest_47 : decode cX7_digest 47 = .ok (.iload 4, 2) := by decide +kernel
theorem dX7_digest_49 : decode cX7_digest 49 = .ok (.bipush 9, 2) := by decide +kernel
theorem dX7_digest_51 : decode cX7_digest 51 = .ok (.if_icmp .ge 35, 3) := by decide +kernel
theorem dX7_digest_54 : decode cX7_digest 54 = .ok (.ldc2_w 332, 3) := by decide +kernel
theorem dX7_digest_57 : decode cX7_digest 57 = .ok (.lload_n 1, 1) := by decide +kernel
theorem dX7_digest_58 : decode cX7_digest 58 = .ok (.lmul, 1) := by decide +kernel
theorem dX7_digest_59 : decode cX7_digest 59 = .ok (.aload_n 0, 1) := by decide +kernel
theorem dX7_digest_60 : decode cX7_digest 60 = .ok (.getfield 28, 3) := by decide +kernel
theorem dX7_digest_63 : decode cX7_digest 63 = .ok (.aload_n 0, 1) := by decide +kernel
theorem dX7_digest_64 : decode cX7_digest 64 = .ok (.getfield 28, 3) := by decide +kernel
theorem dX7_digest_67 : decode cX7_digest 67 = .ok (.getfield 126, 3) := by decide +kernel
theorem dX7_digest_70 : decode cX7_digest 70 = .ok (.iload_n 3, 1) := by decide +kernel
theorem dX7_digest_71 : decode cX7_digest 71 = .ok (.aaload, 1) := by decide +kernel
theorem dX7_digest_72 : decode cX7_digest 72 = .ok (.iload 4, 2) := by decide +kernel
theorem dX7_digest_74 : decode cX7_digest 74 = .ok (.invokevirtual 130, 3) := by decide +kernel
theorem dX7_digest_77 : decode cX7_digest 77 = .ok (.i2l, 1) := by decide +kernel
theorem dX7_digest_78 : decode cX7_digest 78 = .ok (.ladd, 1) := by decide +kernel
theorem dX7_digest_79 : decode cX7_digest 79 = .ok (.lstore_n 1, 1) := by decide +kernel
theorem dX7_digest_80 : decode cX7_digest 80 = .ok (.iinc 4 1, 3) := by decide +kernel
theorem dX7_digest_83 : decode cX7_digest 83 = .ok (.goto (-36), 3) := by decide +kernel
theorem dX7_digest_86 : decode cX7_digest 86 = .ok (.iinc 3 1, 3) := by decide +kernel
theorem dX7_digest_89 : decode cX7_digest 89 = .ok (.goto (-56), 3) := by decide +kernel
theorem dX7_digest_92 : decode cX7_digest 92 = .ok (.iconst 0, 1) := by decide +kernel
theorem dX7_digest_93 : decode cX7_digest 93 = .ok (.istore_n 3, 1) := by decide +kernel
theorem dX7_digest_94 : decode cX7_digest 94 = .ok (.iload_n 3, 1) := by decide +kernel
theorem dX7_digest_95 : decode cX7_digest 95 = .ok (.iconst 3, 1) := by decide +kernel
theorem dX7_digest_96 : decode cX7_digest 96 = .ok (.if_icmp .ge 26, 3) := by decide +kernel
theorem dX7_digest_99 : decode cX7_digest 99 = .ok (.ldc2_w 332, 3) := by decide +kernel
theorem dX7_digest_102 : decode cX7_digest 102 = .ok (.lload_n 1, 1) := by decide +kernel
theorem dX7_digest_103 : decode cX7_digest 103 = .ok (.lmul, 1) := by decide +kernel
theorem dX7_digest_104 : decode cX7_digest 104 = .ok (.aload_n 0, 1) := by decide +kernel
theorem dX7_digest_105 : decode cX7_digest 105 = .ok (.getfield 34, 3) := by decide +kernel
theorem dX7_digest_108 : decode cX7_digest 108 = .ok (.iload_n 3, 1) := by decide +kernel
theorem dX7_digest_109 : decode cX7_digest 109 = .ok (.aaload, 1) := by decide +kernel
theorem dX7_digest_110 : decode cX7_digest 110 = .ok (.getfield 120, 3) := by decide +kernel
theorem dX7_digest_113 : decode cX7_digest 113 = .ok (.i2l, 1) := by decide +kernel
theorem dX7_digest_114 : decode cX7_digest 114 = .ok (.ladd, 1) := by decide +kernel
theorem dX7_digest_115 : decode cX7_digest 115 = .ok (.lstore_n 1, 1) := by decide +kernel
theorem dX7_digest_116 : decode cX7_digest 116 = .ok (.iinc 3 1, 3) := by decide +kernel
theorem dX7_digest_119 : decode cX7_digest 119 = .ok (.goto (-25), 3) := by decide +kernel
theorem dX7_digest_122 : decode cX7_digest 122 = .ok (.iconst 0, 1) := by decide +kernel
theorem dX7_digest_123 : decode cX7_digest 123 = .ok (.istore_n 3, 1) := by decide +kernel
theorem dX7_digest_124 : decode cX7_digest 124 = .ok (.iload_n 3, 1) := by decide +kernel
theorem dX7_digest_125 : decode cX7_digest 125 = .ok (.bipush 6, 2) := by decide +kernel
theorem dX7_digest_127 : decode cX7_digest 127 = .ok (.if_icmp .ge 20, 3) := by decide +kernel
theorem dX7_digest_130 : decode cX7_digest 130 = .ok (.aload_n 0, 1) := by decide +kernel
theorem dX7_digest_131 : decode cX7_digest 131 = .ok (.getfield 11, 3) := by decide +kernel
theorem dX7_digest_134 : decode cX7_digest 134 = .ok (.iload_n 3, 1) := by decide +kernel
theorem dX7_digest_135 : decode cX7_digest 135 = .ok (.aaload, 1) := by decide +kernel
theorem dX7_digest_136 : decode cX7_digest 136 = .ok (.lload_n 1, 1) := by decide +kernel
theorem dX7_digest_137 : decode cX7_digest 137 = .ok (.invokevirtual 337, 3) := by decide +kernel
theorem dX7_digest_140 : decode cX7_digest 140 = .ok (.lstore_n 1, 1) := by decide +kernel
theorem dX7_digest_141 : decode cX7_digest 141 = .ok (.iinc 3 1, 3) := by decide +kernel
theorem dX7_digest_144 : decode cX7_digest 144 = .ok (.goto (-20), 3) := by decide +kernel
theorem dX7_digest_147 : decode cX7_digest 147 = .ok (.iconst 0, 1) := by decide +kernel
theorem dX7_digest_148 : decode cX7_digest 148 = .ok (.istore_n 3, 1) := by decide +kernel
theorem dX7_digest_149 : decode cX7_digest 149 = .ok (.iload_n 3, 1) := by decide +kernel
theorem dX7_digest_150 : decode cX7_digest 150 = .ok (.iconst 4, 1) := by decide +kernel
theorem dX7_digest_151 : decode cX7_digest 151 = .ok (.if_icmp .ge 20, 3) := by decide +kernel
theorem dX7_digest_154 : decode cX7_digest 154 = .ok (.aload_n 0, 1) := by decide +kernel
theorem dX7_digest_155 : decode cX7_digest 155 = .ok (.getfield 15, 3) := by decide +kernel
theorem dX7_digest_158 : decode cX7_digest 158 = .ok (.iload_n 3, 1) := by decide +kernel
theorem dX7_digest_159 : decode cX7_digest 159 = .ok (.aaload, 1) := by decide +kernel
theorem dX7_digest_160 : decode cX7_digest 160 = .ok (.lload_n 1, 1) := by decide +kernel
theorem dX7_digest_161 : decode cX7_digest 161 = .ok (.invokevirtual 337, 3) := by decide +kernel
theorem dX7_digest_164 : decode cX7_digest 164 = .ok (.lstore_n 1, 1) := by decide +kernel
theorem dX7_digest_165 : decode cX7_digest 165 = .ok (.iinc 3 1, 3) := by decide +kernel
theorem dX7_digest_168 : decode cX7_digest 168 = .ok (.goto (-19), 3) := by decide +kernel
theorem dX7_digest_171 : decode cX7_digest 171 = .ok (.lload_n 1, 1) := by decide +kernel
theorem dX7_digest_172 : decode cX7_digest 172 = .ok (.lreturn, 1) := by decide +kernel
theorem dX7_found_0 : decode cX7_found 0 = .ok (.aload_n 0, 1) := by decide +kernel
theorem dX7_found_1 : decode cX7_found 1 = .ok (.iload_n 1, 1) := by decide +kernel
theorem dX7_found_2 : decode cX7_found 2 = .ok (.putfield 327, 3) := by decide +kernel
theorem dX7_found_5 : decode cX7_found 5 = .ok (.aload_n 0, 1) := by decide +kernel
theorem dX7_found_6 : decode cX7_found 6 = .ok (.getfield 52, 3) := by decide +kernel
theorem dX7_found_9 : decode cX7_found 9 = .ok (.iload_n 1, 1) := by decide +kernel
theorem dX7_found_10 : decode cX7_found 10 = .ok (.dup2, 1) := by decide +kernel
theorem dX7_found_11 : decode cX7_found 11 = .ok (.iaload, 1) := by decide +kernel
theorem dX7_found_12 : decode cX7_found 12 = .ok (.iconst 1, 1) := by decide +kernel
theorem dX7_found_13 : decode cX7_found 13 = .ok (.iadd, 1) := by decide +kernel
theorem dX7_found_14 : decode cX7_found 14 = .ok (.iastore, 1) := by decide +kernel
theorem dX7_found_15 : decode cX7_found 15 = .ok (.bipush (-3), 2) := by decide +kernel
theorem dX7_found_17 : decode cX7_found 17 = .ok (.ireturn, 1) := by decide +kernel
theorem dX7_isOneOf_0 : decode cX7_isOneOf 0 = .ok (.iload_n 1, 1) := by decide +kernel
theorem dX7_isOneOf_1 : decode cX7_isOneOf 1 = .ok (.ifCond .lt 13, 3) := by decide +kernel
theorem dX7_isOneOf_4 : decode cX7_isOneOf 4 = .ok (.iload_n 1, 1) := by decide +kernel
theorem dX7_isOneOf_5 : decode cX7_isOneOf 5 = .ok (.aload_n 0, 1) := by decide +kernel
theorem dX7_isOneOf_6 : decode cX7_isOneOf 6 = .ok (.arraylength, 1) := by decide +kernel
theorem dX7_isOneOf_7 : decode cX7_isOneOf 7 = .ok (.if_icmp .ge 7, 3) := by decide +kernel
theorem dX7_isOneOf_10 : decode cX7_isOneOf 10 = .ok (.iconst 1, 1) := by decide +kernel
theorem dX7_isOneOf_11 : decode cX7_isOneOf 11 = .ok (.goto 4, 3) := by decide +kernel
theorem dX7_isOneOf_14 : decode cX7_isOneOf 14 = .ok (.iconst 0, 1) := by decide +kernel
theorem dX7_isOneOf_15 : decode cX7_isOneOf 15 = .ok (.ireturn, 1) := by decide +kernel
theorem dX7_isMan_0 : decode cX7_isMan 0 = .ok (.iload_n 1, 1) := by decide +kernel
theorem dX7_isMan_1 : decode cX7_isMan 1 = .ok (.ifCond .lt 18, 3) := by decide +kernel
theorem dX7_isMan_4 : decode cX7_isMan 4 = .ok (.iload_n 1, 1) := by decide +kernel
theorem dX7_isMan_5 : decode cX7_isMan 5 = .ok (.aload_n 0, 1) := by decide +kernel
theorem dX7_isMan_6 : decode cX7_isMan 6 = .ok (.getfield 28, 3) := by decide +kernel
theorem dX7_isMan_9 : decode cX7_isMan 9 = .ok (.getfield 121, 3) := by decide +kernel
theorem dX7_isMan_12 : decode cX7_isMan 12 = .ok (.if_icmp .ge 7, 3) := by decide +kernel
theorem dX7_isMan_15 : decode cX7_isMan 15 = .ok (.iconst 1, 1) := by decide +kernel
theorem dX7_isMan_16 : decode cX7_isMan 16 = .ok (.goto 4, 3) := by decide +kernel
theorem dX7_isMan_19 : decode cX7_isMan 19 = .ok (.iconst 0, 1) := by decide +kernel
theorem dX7_isMan_20 : decode cX7_isMan 20 = .ok (.ireturn, 1) := by decide +kernel
theorem dX7_isKeptPlace_0 : decode cX7_isKeptPlace 0 = .ok (.iload_n 0, 1) := by decide +kernel
theorem dX7_isKeptPlace_1 : decode cX7_isKeptPlace 1 = .ok (.ifCond .lt 12, 3) := by decide +kernel
theorem dX7_isKeptPlace_4 : decode cX7_isKeptPlace 4 = .ok (.iload_n 0, 1) := by decide +kernel
theorem dX7_isKeptPlace_5 : decode cX7_isKeptPlace 5 = .ok (.iconst 3, 1) := by decide +kernel
theorem dX7_isKeptPlace_6 : decode cX7_isKeptPlace 6 = .ok (.if_icmp .ge 7, 3) := by decide +kernel
theorem dX7_isKeptPlace_9 : decode cX7_isKeptPlace 9 = .ok (.iconst 1, 1) := by decide +kernel
theorem dX7_isKeptPlace_10 : decode cX7_isKeptPlace 10 = .ok (.goto 4, 3) := by decide +kernel
theorem dX7_isKeptPlace_13 : decode cX7_isKeptPlace 13 = .ok (.iconst 0, 1) := by decide +kernel
theorem dX7_isKeptPlace_14 : decode cX7_isKeptPlace 14 = .ok (.ireturn, 1) := by decide +kernel
theorem dX7_missingRefusal_0 : decode cX7_missingRefusal 0 = .ok (.aload_n 1, 1) := by decide +kernel
theorem dX7_missingRefusal_1 : decode cX7_missingRefusal 1 = .ok (.iload_n 2, 1) := by decide +kernel
theorem dX7_missingRefusal_2 : decode cX7_missingRefusal 2 = .ok (.invokestatic 86, 3) := by decide +kernel
theorem dX7_missingRefusal_5 : decode cX7_missingRefusal 5 = .ok (.ifCond .ne 5, 3) := by decide +kernel
theorem dX7_missingRefusal_8 : decode cX7_missingRefusal 8 = .ok (.iconst (-1), 1) := by decide +kernel
theorem dX7_missingRefusal_9 : decode cX7_missingRefusal 9 = .ok (.ireturn, 1) := by decide +kernel
theorem dX7_missingRefusal_10 : decode cX7_missingRefusal 10 = .ok (.aload_n 1, 1) := by decide +kernel
theorem dX7_missingRefusal_11 : decode cX7_missingRefusal 11 = .ok (.iload_n 2, 1) := by decide +kernel
theorem dX7_missingRefusal_12 : decode cX7_missingRefusal 12 = .ok (.aaload, 1) := by decide +kernel
theorem dX7_missingRefusal_13 : decode cX7_missingRefusal 13 = .ok (.invokevirtual 94, 3) := by decide +kernel
theorem dX7_missingRefusal_16 : decode cX7_missingRefusal 16 = .ok (.ifCond .eq 11, 3) := by decide +kernel
theorem dX7_missingRefusal_19 : decode cX7_missingRefusal 19 = .ok (.aload_n 0, 1) := by decide +kernel
theorem dX7_missingRefusal_20 : decode cX7_missingRefusal 20 = .ok (.iconst 1, 1) := by decide +kernel
theorem dX7_missingRefusal_21 : decode cX7_missingRefusal 21 = .ok (.invokevirtual 90, 3) := by decide +kernel
theorem dX7_missingRefusal_24 : decode cX7_missingRefusal 24 = .ok (.goto 4, 3) := by decide +kernel
theorem dX7_missingRefusal_27 : decode cX7_missingRefusal 27 = .ok (.iconst 0, 1) := by decide +kernel
theorem dX7_missingRefusal_28 : decode cX7_missingRefusal 28 = .ok (.ireturn, 1) := by decide +kernel
theorem dX7_placeRefusal_0 : decode cX7_placeRefusal 0 = .ok (.aload_n 0, 1) := by decide +kernel
theorem dX7_placeRefusal_1 : decode cX7_placeRefusal 1 = .ok (.aload_n 1, 1) := by decide +kernel
theorem dX7_placeRefusal_2 : decode cX7_placeRefusal 2 = .ok (.iload_n 2, 1) := by decide +kernel
theorem dX7_placeRefusal_3 : decode cX7_placeRefusal 3 = .ok (.invokevirtual 79, 3) := by decide +kernel
theorem dX7_placeRefusal_6 : decode cX7_placeRefusal 6 = .ok (.istore 4, 2) := by decide +kernel
theorem dX7_placeRefusal_8 : decode cX7_placeRefusal 8 = .ok (.iload 4, 2) := by decide +kernel
theorem dX7_placeRefusal_10 : decode cX7_placeRefusal 10 = .ok (.ifCond .eq 6, 3) := by decide +kernel
theorem dX7_placeRefusal_13 : decode cX7_placeRefusal 13 = .ok (.iload 4, 2) := by decide +kernel
theorem dX7_placeRefusal_15 : decode cX7_placeRefusal 15 = .ok (.ireturn, 1) := by decide +kernel
theorem dX7_placeRefusal_16 : decode cX7_placeRefusal 16 = .ok (.iload_n 3, 1) := by decide +kernel
theorem dX7_placeRefusal_17 : decode cX7_placeRefusal 17 = .ok (.ifCond .lt 17, 3) := by decide +kernel
theorem dX7_placeRefusal_20 : decode cX7_placeRefusal 20 = .ok (.iload_n 3, 1) := by decide +kernel
theorem dX7_placeRefusal_21 : decode cX7_placeRefusal 21 = .ok (.aload_n 1, 1) := by decide +kernel
theorem dX7_placeRefusal_22 : decode cX7_placeRefusal 22 = .ok (.iload_n 2, 1) := by decide +kernel
theorem dX7_placeRefusal_23 : decode cX7_placeRefusal 23 = .ok (.aaload, 1) := by decide +kernel
theorem dX7_placeRefusal_24 : decode cX7_placeRefusal 24 = .ok (.getfield 83, 3) := by decide +kernel
theorem dX7_placeRefusal_27 : decode cX7_placeRefusal 27 = .ok (.if_icmp .ge 7, 3) := by decide +kernel
theorem dX7_placeRefusal_30 : decode cX7_placeRefusal 30 = .ok (.iconst 0, 1) := by decide +kernel
theorem dX7_placeRefusal_31 : decode cX7_placeRefusal 31 = .ok (.goto 8, 3) := by decide +kernel
theorem dX7_placeRefusal_34 : decode cX7_placeRefusal 34 = .ok (.aload_n 0, 1) := by decide +kernel
theorem dX7_placeRefusal_35 : decode cX7_placeRefusal 35 = .ok (.iconst 2, 1) := by decide +kernel
theorem dX7_placeRefusal_36 : decode cX7_placeRefusal 36 = .ok (.invokevirtual 90, 3) := by decide +kernel
theorem dX7_placeRefusal_39 : decode cX7_placeRefusal 39 = .ok (.ireturn, 1) := by decide +kernel
theorem dX7_laidOut_0 : decode cX7_laidOut 0 = .ok (.aload_n 1, 1) := by decide +kernel
theorem dX7_laidOut_1 : decode cX7_laidOut 1 = .ok (.iload_n 2, 1) := by decide +kernel
theorem dX7_laidOut_2 : decode cX7_laidOut 2 = .ok (.invokestatic 86, 3) := by decide +kernel
theorem dX7_laidOut_5 : decode cX7_laidOut 5 = .ok (.ifCond .eq 14, 3) := by decide +kernel
theorem dX7_laidOut_8 : decode cX7_laidOut 8 = .ok (.iload_n 3, 1) := by decide +kernel
theorem dX7_laidOut_9 : decode cX7_laidOut 9 = .ok (.aload_n 1, 1) := by decide +kernel
theorem dX7_laidOut_10 : decode cX7_laidOut 10 = .ok (.iload_n 2, 1) := by decide +kernel
theorem dX7_laidOut_11 : decode cX7_laidOut 11 = .ok (.aaload, 1) := by decide +kernel
theorem dX7_laidOut_12 : decode cX7_laidOut 12 = .ok (.getfield 72, 3) := by decide +kernel
theorem dX7_laidOut_15 : decode cX7_laidOut 15 = .ok (.arraylength, 1) := by decide +kernel
theorem dX7_laidOut_16 : decode cX7_laidOut 16 = .ok (.if_icmp .le 5, 3) := by decide +kernel
theorem dX7_laidOut_19 : decode cX7_laidOut 19 = .ok (.iconst (-1), 1) := by decide +kernel
theorem dX7_laidOut_20 : decode cX7_laidOut 20 = .ok (.ireturn, 1) := by decide +kernel
theorem dX7_laidOut_21 : decode cX7_laidOut 21 = .ok (.iload_n 3, 1) := by decide +kernel
theorem dX7_laidOut_22 : decode cX7_laidOut 22 = .ok (.ifCond .ge 9, 3) := by decide +kernel
theorem dX7_laidOut_25 : decode cX7_laidOut 25 = .ok (.aload_n 0, 1) := by decide +kernel
theorem dX7_laidOut_26 : decode cX7_laidOut 26 = .ok (.iconst 5, 1) := by decide +kernel
theorem dX7_laidOut_27 : decode cX7_laidOut 27 = .ok (.invokevirtual 90, 3) := by decide +kernel
theorem dX7_laidOut_30 : decode cX7_laidOut 30 = .ok (.ireturn, 1) := by decide +kernel
theorem dX7_laidOut_31 : decode cX7_laidOut 31 = .ok (.aload_n 1, 1) := by decide +kernel
theorem dX7_laidOut_32 : decode cX7_laidOut 32 = .ok (.iload_n 2, 1) := by decide +kernel
theorem dX7_laidOut_33 : decode cX7_laidOut 33 = .ok (.aaload, 1) := by decide +kernel
theorem dX7_laidOut_34 : decode cX7_laidOut 34 = .ok (.iload_n 3, 1) := by decide +kernel
theorem dX7_laidOut_35 : decode cX7_laidOut 35 = .ok (.iload 4, 2) := by decide +kernel
theorem dX7_laidOut_37 : decode cX7_laidOut 37 = .ok (.invokevirtual 341, 3) := by decide +kernel
theorem dX7_laidOut_40 : decode cX7_laidOut 40 = .ok (.iload_n 3, 1) := by decide +kernel
theorem dX7_laidOut_41 : decode cX7_laidOut 41 = .ok (.ireturn, 1) := by decide +kernel
theorem dX7_rowRefusal_0 : decode cX7_rowRefusal 0 = .ok (.aload_n 0, 1) := by decide +kernel
theorem dX7_rowRefusal_1 : decode cX7_rowRefusal 1 = .ok (.getfield 11, 3) := by decide +kernel
theorem dX7_rowRefusal_4 : decode cX7_rowRefusal 4 = .ok (.iload_n 1, 1) := by decide +kernel
theorem dX7_rowRefusal_5 : decode cX7_rowRefusal 5 = .ok (.invokestatic 86, 3) := by decide +kernel
theorem dX7_rowRefusal_8 : decode cX7_rowRefusal 8 = .ok (.ifCond .ne 5, 3) := by decide +kernel
theorem dX7_rowRefusal_11 : decode cX7_rowRefusal 11 = .ok (.iconst (-1), 1) := by decide +kernel
theorem dX7_rowRefusal_12 : decode cX7_rowRefusal 12 = .ok (.ireturn, 1) := by decide +kernel
theorem dX7_rowRefusal_13 : decode cX7_rowRefusal 13 = .ok (.aload_n 0, 1) := by decide +kernel
theorem dX7_rowRefusal_14 : decode cX7_rowRefusal 14 = .ok (.getfield 28, 3) := by decide +kernel
theorem dX7_rowRefusal_17 : decode cX7_rowRefusal 17 = .ok (.getfield 121, 3) := by decide +kernel
theorem dX7_rowRefusal_20 : decode cX7_rowRefusal 20 = .ok (.ifCond .ne 8, 3) := by decide +kernel
theorem dX7_rowRefusal_23 : decode cX7_rowRefusal 23 = .ok (.bipush (-4), 2) := by decide +kernel
theorem dX7_rowRefusal_25 : decode cX7_rowRefusal 25 = .ok (.goto 4, 3) := by decide +kernel
theorem dX7_rowRefusal_28 : decode cX7_rowRefusal 28 = .ok (.iconst 0, 1) := by decide +kernel
theorem dX7_rowRefusal_29 : decode cX7_rowRefusal 29 = .ok (.ireturn, 1) := by decide +kernel
theorem dX7_heatRefusal_0 : decode cX7_heatRefusal 0 = .ok (.iload_n 1, 1) := by decide +kernel
theorem dX7_heatRefusal_1 : decode cX7_heatRefusal 1 = .ok (.ifCond .lt 9, 3) := by decide +kernel
theorem dX7_heatRefusal_4 : decode cX7_heatRefusal 4 = .ok (.iload_n 1, 1) := by decide +kernel
theorem dX7_heatRefusal_5 : decode cX7_heatRefusal 5 = .ok (.bipush 30, 2) := by decide +kernel
theorem dX7_heatRefusal_7 : decode cX7_heatRefusal 7 = .ok (.if_icmp .le 5, 3) := by decide +kernel
theorem dX7_heatRefusal_10 : decode cX7_heatRefusal 10 = .ok (.iconst (-1), 1) := by decide +kernel
theorem dX7_heatRefusal_11 : decode cX7_heatRefusal 11 = .ok (.ireturn, 1) := by decide +kernel
theorem dX7_heatRefusal_12 : decode cX7_heatRefusal 12 = .ok (.aload_n 0, 1) := by decide +kernel
theorem dX7_heatRefusal_13 : decode cX7_heatRefusal 13 = .ok (.getfield 28, 3) := by decide +kernel
theorem dX7_heatRefusal_16 : decode cX7_heatRefusal 16 = .ok (.getfield 121, 3) := by decide +kernel
theorem dX7_heatRefusal_19 : decode cX7_heatRefusal 19 = .ok (.ifCond .ne 8, 3) := by decide +kernel
theorem dX7_heatRefusal_22 : decode cX7_heatRefusal 22 = .ok (.bipush (-4), 2) := by decide +kernel
theorem dX7_heatRefusal_24 : decode cX7_heatRefusal 24 = .ok (.goto 4, 3) := by decide +kernel
theorem dX7_heatRefusal_27 : decode cX7_heatRefusal 27 = .ok (.iconst 0, 1) := by decide +kernel
theorem dX7_heatRefusal_28 : decode cX7_heatRefusal 28 = .ok (.ireturn, 1) := by decide +kernel
theorem dX7_chanceRefusal_0 : decode cX7_chanceRefusal 0 = .ok (.iload_n 1, 1) := by decide +kernel
theorem dX7_chanceRefusal_1 : decode cX7_chanceRefusal 1 = .ok (.ifCond .lt 9, 3) := by decide +kernel
theorem dX7_chanceRefusal_4 : decode cX7_chanceRefusal 4 = .ok (.iload_n 1, 1) := by decide +kernel
theorem dX7_chanceRefusal_5 : decode cX7_chanceRefusal 5 = .ok (.bipush 12, 2) := by decide +kernel
theorem dX7_chanceRefusal_7 : decode cX7_chanceRefusal 7 = .ok (.if_icmp .le 5, 3) := by decide +kernel
theorem dX7_chanceRefusal_10 : decode cX7_chanceRefusal 10 = .ok (.iconst (-1), 1) := by decide +kernel
theorem dX7_chanceRefusal_11 : decode cX7_chanceRefusal 11 = .ok (.ireturn, 1) := by decide +kernel
theorem dX7_chanceRefusal_12 : decode cX7_chanceRefusal 12 = .ok (.aload_n 0, 1) := by decide +kernel
theorem dX7_chanceRefusal_13 : decode cX7_chanceRefusal 13 = .ok (.getfield 28, 3) := by decide +kernel
theorem dX7_chanceRefusal_16 : decode cX7_chanceRefusal 16 = .ok (.getfield 121, 3) := by decide +kernel
theorem dX7_chanceRefusal_19 : decode cX7_chanceRefusal 19 = .ok (.ifCond .ne 8, 3) := by decide +kernel
theorem dX7_chanceRefusal_22 : decode cX7_chanceRefusal 22 = .ok (.bipush (-4), 2) := by decide +kernel
theorem dX7_chanceRefusal_24 : decode cX7_chanceRefusal 24 = .ok (.goto 4, 3) := by decide +kernel
theorem dX7_chanceRefusal_27 : decode cX7_chanceRefusal 27 = .ok (.iconst 0, 1) := by decide +kernel
theorem dX7_chanceRefusal_28 : decode cX7_chanceRefusal 28 = .ok (.ireturn, 1) := by decide +kernel
theorem dX7_trialsRefusal_0 : decode cX7_trialsRefusal 0 = .ok (.aload_n 0, 1) := by decide +kernel
theorem dX7_trialsRefusal_1 : decode cX7_trialsRefusal 1 = .ok (.iload_n 1, 1) := by decide +kernel
theorem dX7_trialsRefusal_2 : decode cX7_trialsRefusal 2 = .ok (.invokevirtual 221, 3) := by decide +kernel
theorem dX7_trialsRefusal_5 : decode cX7_trialsRefusal 5 = .ok (.istore_n 2, 1) := by decide +kernel
theorem dX7_trialsRefusal_6 : decode cX7_trialsRefusal 6 = .ok (.iload_n 2, 1) := by decide +kernel
theorem dX7_trialsRefusal_7 : decode cX7_trialsRefusal 7 = .ok (.ifCond .eq 5, 3) := by decide +kernel
theorem dX7_trialsRefusal_10 : decode cX7_trialsRefusal 10 = .ok (.iload_n 2, 1) := by decide +kernel
theorem dX7_trialsRefusal_11 : decode cX7_trialsRefusal 11 = .ok (.ireturn, 1) := by decide +kernel
theorem dX7_trialsRefusal_12 : decode cX7_trialsRefusal 12 = .ok (.aload_n 0, 1) := by decide +kernel
theorem dX7_trialsRefusal_13 : decode cX7_trialsRefusal 13 = .ok (.getfield 11, 3) := by decide +kernel
theorem dX7_trialsRefusal_16 : decode cX7_trialsRefusal 16 = .ok (.iload_n 1, 1) := by decide +kernel
theorem dX7_trialsRefusal_17 : decode cX7_trialsRefusal 17 = .ok (.aaload, 1) := by decide +kernel
theorem dX7_trialsRefusal_18 : decode cX7_trialsRefusal 18 = .ok (.aload_n 0, 1) := by decide +kernel
theorem dX7_trialsRefusal_19 : decode cX7_trialsRefusal 19 = .ok (.getfield 28, 3) := by decide +kernel
theorem dX7_trialsRefusal_22 : decode cX7_trialsRefusal 22 = .ok (.getfield 121, 3) := by decide +kernel
theorem dX7_trialsRefusal_25 : decode cX7_trialsRefusal 25 = .ok (.invokestatic 344, 3) := by decide +kernel
theorem dX7_trialsRefusal_28 : decode cX7_trialsRefusal 28 = .ok (.istore_n 3, 1) := by decide +kernel
theorem dX7_trialsRefusal_29 : decode cX7_trialsRefusal 29 = .ok (.iload_n 3, 1) := by decide +kernel
theorem dX7_trialsRefusal_30 : decode cX7_trialsRefusal 30 = .ok (.ifCond .ne 7, 3) := by decide +kernel
theorem dX7_trialsRefusal_33 : decode cX7_trialsRefusal 33 = .ok (.iconst 0, 1) := by decide +kernel
theorem dX7_trialsRefusal_34 : decode cX7_trialsRefusal 34 = .ok (.goto 8, 3) := by decide +kernel
theorem dX7_trialsRefusal_37 : decode cX7_trialsRefusal 37 = .ok (.aload_n 0, 1) := by decide +kernel
theorem dX7_trialsRefusal_38 : decode cX7_trialsRefusal 38 = .ok (.iload_n 3, 1) := by decide +kernel
theorem dX7_trialsRefusal_39 : decode cX7_trialsRefusal 39 = .ok (.invokevirtual 90, 3) := by decide +kernel
theorem dX7_trialsRefusal_42 : decode cX7_trialsRefusal 42 = .ok (.ireturn, 1) := by decide +kernel
theorem dX7_suppositionRefusal_0 : decode cX7_suppositionRefusal 0 = .ok (.aload_n 0, 1) := by decide +kernel
theorem dX7_suppositionRefusal_1 : decode cX7_suppositionRefusal 1 = .ok (.iload_n 1, 1) := by decide +kernel
theorem dX7_suppositionRefusal_2 : decode cX7_suppositionRefusal 2 = .ok (.invokevirtual 122, 3) := by decide +kernel
theorem dX7_suppositionRefusal_5 : decode cX7_suppositionRefusal 5 = .ok (.ifCond .eq 14, 3) := by decide +kernel
theorem dX7_suppositionRefusal_8 : decode cX7_suppositionRefusal 8 = .ok (.aload_n 0, 1) := by decide +kernel
theorem dX7_suppositionRefusal_9 : decode cX7_suppositionRefusal 9 = .ok (.getfield 11, 3) := by decide +kernel
theorem dX7_suppositionRefusal_12 : decode cX7_suppositionRefusal 12 = .ok (.iload_n 2, 1) := by decide +kernel
theorem dX7_suppositionRefusal_13 : decode cX7_suppositionRefusal 13 = .ok (.invokestatic 86, 3) := by decide +kernel
theorem dX7_suppositionRefusal_16 : decode cX7_suppositionRefusal 16 = .ok (.ifCond .ne 5, 3) := by decide +kernel
theorem dX7_suppositionRefusal_19 : decode cX7_suppositionRefusal 19 = .ok (.iconst (-1), 1) := by decide +kernel
theorem dX7_suppositionRefusal_20 : decode cX7_suppositionRefusal 20 = .ok (.ireturn, 1) := by decide +kernel
theorem dX7_suppositionRefusal_21 : decode cX7_suppositionRefusal 21 = .ok (.aload_n 0, 1) := by decide +kernel
theorem dX7_suppositionRefusal_22 : decode cX7_suppositionRefusal 22 = .ok (.getfield 11, 3) := by decide +kernel
theorem dX7_suppositionRefusal_25 : decode cX7_suppositionRefusal 25 = .ok (.iload_n 2, 1) := by decide +kernel
theorem dX7_suppositionRefusal_26 : decode cX7_suppositionRefusal 26 = .ok (.aaload, 1) := by decide +kernel
theorem dX7_suppositionRefusal_27 : decode cX7_suppositionRefusal 27 = .ok (.bipush 31, 2) := by decide +kernel
theorem dX7_suppositionRefusal_29 : decode cX7_suppositionRefusal 29 = .ok (.invokestatic 344, 3) := by decide +kernel
theorem dX7_suppositionRefusal_32 : decode cX7_suppositionRefusal 32 = .ok (.istore_n 3, 1) := by decide +kernel
theorem dX7_suppositionRefusal_33 : decode cX7_suppositionRefusal 33 = .ok (.iload_n 3, 1) := by decide +kernel
theorem dX7_suppositionRefusal_34 : decode cX7_suppositionRefusal 34 = .ok (.ifCond .ne 7, 3) := by decide +kernel
theorem dX7_suppositionRefusal_37 : decode cX7_suppositionRefusal 37 = .ok (.iconst 0, 1) := by decide +kernel
theorem dX7_suppositionRefusal_38 : decode cX7_suppositionRefusal 38 = .ok (.goto 8, 3) := by decide +kernel
theorem dX7_suppositionRefusal_41 : decode cX7_suppositionRefusal 41 = .ok (.aload_n 0, 1) := by decide +kernel
theorem dX7_suppositionRefusal_42 : decode cX7_suppositionRefusal 42 = .ok (.iload_n 3, 1) := by decide +kernel
theorem dX7_suppositionRefusal_43 : decode cX7_suppositionRefusal 43 = .ok (.invokevirtual 90, 3) := by decide +kernel
theorem dX7_suppositionRefusal_46 : decode cX7_suppositionRefusal 46 = .ok (.ireturn, 1) := by decide +kernel
theorem dX7_pairsFinding_0 : decode cX7_pairsFinding 0 = .ok (.aload_n 0, 1) := by decide +kernel
theorem dX7_pairsFinding_1 : decode cX7_pairsFinding 1 = .ok (.invokevirtual 94, 3) := by decide +kernel
theorem dX7_pairsFinding_4 : decode cX7_pairsFinding 4 = .ok (.ifCond .eq 5, 3) := by decide +kernel
theorem dX7_pairsFinding_7 : decode cX7_pairsFinding 7 = .ok (.iconst 1, 1) := by decide +kernel
theorem dX7_pairsFinding_8 : decode cX7_pairsFinding 8 = .ok (.ireturn, 1) := by decide +kernel
theorem dX7_pairsFinding_9 : decode cX7_pairsFinding 9 = .ok (.aload_n 0, 1) := by decide +kernel
theorem dX7_pairsFinding_10 : decode cX7_pairsFinding 10 = .ok (.getfield 83, 3) := by decide +kernel
theorem dX7_pairsFinding_13 : decode cX7_pairsFinding 13 = .ok (.iconst 2, 1) := by decide +kernel
theorem dX7_pairsFinding_14 : decode cX7_pairsFinding 14 = .ok (.irem, 1) := by decide +kernel
theorem dX7_pairsFinding_15 : decode cX7_pairsFinding 15 = .ok (.ifCond .eq 5, 3) := by decide +kernel
theorem dX7_pairsFinding_18 : decode cX7_pairsFinding 18 = .ok (.iconst 5, 1) := by decide +kernel
theorem dX7_pairsFinding_19 : decode cX7_pairsFinding 19 = .ok (.ireturn, 1) := by decide +kernel
theorem dX7_pairsFinding_20 : decode cX7_pairsFinding 20 = .ok (.iconst 0, 1) := by decide +kernel
theorem dX7_pairsFinding_21 : decode cX7_pairsFinding 21 = .ok (.istore_n 2, 1) := by decide +kernel
theorem dX7_pairsFinding_22 : decode cX7_pairsFinding 22 = .ok (.iload_n 2, 1) := by decide +kernel
theorem dX7_pairsFinding_23 : decode cX7_pairsFinding 23 = .ok (.aload_n 0, 1) := by decide +kernel
theorem dX7_pairsFinding_24 : decode cX7_pairsFinding 24 = .ok (.getfield 83, 3) := by decide +kernel
theorem dX7_pairsFinding_27 : decode cX7_pairsFinding 27 = .ok (.if_icmp .ge 42, 3) := by decide +kernel
theorem dX7_pairsFinding_30 : decode cX7_pairsFinding 30 = .ok (.iload_n 2, 1) := by decide +kernel
theorem dX7_pairsFinding_31 : decode cX7_pairsFinding 31 = .ok (.iconst 2, 1) := by decide +kernel
theorem dX7_pairsFinding_32 : decode cX7_pairsFinding 32 = .ok (.irem, 1) := by decide +kernel
theorem dX7_pairsFinding_33 : decode cX7_pairsFinding 33 = .ok (.ifCond .ne 7, 3) := by decide +kernel
theorem dX7_pairsFinding_36 : decode cX7_pairsFinding 36 = .ok (.iload_n 1, 1) := by decide +kernel
theorem dX7_pairsFinding_37 : decode cX7_pairsFinding 37 = .ok (.goto 4, 3) := by decide +kernel
theorem dX7_pairsFinding_40 : decode cX7_pairsFinding 40 = .ok (.iconst 3, 1) := by decide +kernel
theorem dX7_pairsFinding_41 : decode cX7_pairsFinding 41 = .ok (.istore_n 3, 1) := by decide +kernel
theorem dX7_pairsFinding_42 : decode cX7_pairsFinding 42 = .ok (.aload_n 0, 1) := by decide +kernel
theorem dX7_pairsFinding_43 : decode cX7_pairsFinding 43 = .ok (.getfield 72, 3) := by decide +kernel
theorem dX7_pairsFinding_46 : decode cX7_pairsFinding 46 = .ok (.iload_n 2, 1) := by decide +kernel
theorem dX7_pairsFinding_47 : decode cX7_pairsFinding 47 = .ok (.iaload, 1) := by decide +kernel
theorem dX7_pairsFinding_48 : decode cX7_pairsFinding 48 = .ok (.ifCond .lt 13, 3) := by decide +kernel
theorem dX7_pairsFinding_51 : decode cX7_pairsFinding 51 = .ok (.aload_n 0, 1) := by decide +kernel
theorem dX7_pairsFinding_52 : decode cX7_pairsFinding 52 = .ok (.getfield 72, 3) := by decide +kernel
theorem dX7_pairsFinding_55 : decode cX7_pairsFinding 55 = .ok (.iload_n 2, 1) := by decide +kernel
theorem dX7_pairsFinding_56 : decode cX7_pairsFinding 56 = .ok (.iaload, 1) := by decide +kernel
theorem dX7_pairsFinding_57 : decode cX7_pairsFinding 57 = .ok (.iload_n 3, 1) := by decide +kernel
theorem dX7_pairsFinding_58 : decode cX7_pairsFinding 58 = .ok (.if_icmp .lt 5, 3) := by decide +kernel
theorem dX7_pairsFinding_61 : decode cX7_pairsFinding 61 = .ok (.iconst 3, 1) := by decide +kernel
theorem dX7_pairsFinding_62 : decode cX7_pairsFinding 62 = .ok (.ireturn, 1) := by decide +kernel
theorem dX7_pairsFinding_63 : decode cX7_pairsFinding 63 = .ok (.iinc 2 1, 3) := by decide +kernel
theorem dX7_pairsFinding_66 : decode cX7_pairsFinding 66 = .ok (.goto (-44), 3) := by decide +kernel
theorem dX7_pairsFinding_69 : decode cX7_pairsFinding 69 = .ok (.iconst 0, 1) := by decide +kernel
theorem dX7_pairsFinding_70 : decode cX7_pairsFinding 70 = .ok (.ireturn, 1) := by decide +kernel
theorem dX7_orderFinding_0 : decode cX7_orderFinding 0 = .ok (.aload_n 1, 1) := by decide +kernel
theorem dX7_orderFinding_1 : decode cX7_orderFinding 1 = .ok (.invokevirtual 94, 3) := by decide +kernel
theorem dX7_orderFinding_4 : decode cX7_orderFinding 4 = .ok (.ifCond .eq 5, 3) := by decide +kernel
theorem dX7_orderFinding_7 : decode cX7_orderFinding 7 = .ok (.iconst 1, 1) := by decide +kernel
theorem dX7_orderFinding_8 : decode cX7_orderFinding 8 = .ok (.ireturn, 1) := by decide +kernel
theorem dX7_orderFinding_9 : decode cX7_orderFinding 9 = .ok (.aload_n 1, 1) := by decide +kernel
theorem dX7_orderFinding_10 : decode cX7_orderFinding 10 = .ok (.getfield 83, 3) := by decide +kernel
theorem dX7_orderFinding_13 : decode cX7_orderFinding 13 = .ok (.bipush 6, 2) := by decide +kernel
theorem dX7_orderFinding_15 : decode cX7_orderFinding 15 = .ok (.if_icmp .le 5, 3) := by decide +kernel
theorem dX7_orderFinding_18 : decode cX7_orderFinding 18 = .ok (.iconst 5, 1) := by decide +kernel
theorem dX7_orderFinding_19 : decode cX7_orderFinding 19 = .ok (.ireturn, 1) := by decide +kernel
theorem dX7_orderFinding_20 : decode cX7_orderFinding 20 = .ok (.aload_n 0, 1) := by decide +kernel
theorem dX7_orderFinding_21 : decode cX7_orderFinding 21 = .ok (.getfield 28, 3) := by decide +kernel
theorem dX7_orderFinding_24 : decode cX7_orderFinding 24 = .ok (.invokevirtual 311, 3) := by decide +kernel
theorem dX7_orderFinding_27 : decode cX7_orderFinding 27 = .ok (.istore_n 2, 1) := by decide +kernel
theorem dX7_orderFinding_28 : decode cX7_orderFinding 28 = .ok (.iconst 0, 1) := by decide +kernel
theorem dX7_orderFinding_29 : decode cX7_orderFinding 29 = .ok (.istore_n 3, 1) := by decide +kernel
theorem dX7_orderFinding_30 : decode cX7_orderFinding 30 = .ok (.iload_n 3, 1) := by decide +kernel
theorem dX7_orderFinding_31 : decode cX7_orderFinding 31 = .ok (.aload_n 1, 1) := by decide +kernel
theorem dX7_orderFinding_32 : decode cX7_orderFinding 32 = .ok (.getfield 83, 3) := by decide +kernel
theorem dX7_orderFinding_35 : decode cX7_orderFinding 35 = .ok (.if_icmp .ge 44, 3) := by decide +kernel
theorem dX7_orderFinding_38 : decode cX7_orderFinding 38 = .ok (.aload_n 1, 1) := by decide +kernel
theorem dX7_orderFinding_39 : decode cX7_orderFinding 39 = .ok (.getfield 72, 3) := by decide +kernel
theorem dX7_orderFinding_42 : decode cX7_orderFinding 42 = .ok (.iload_n 3, 1) := by decide +kernel
theorem dX7_orderFinding_43 : decode cX7_orderFinding 43 = .ok (.iaload, 1) := by decide +kernel
theorem dX7_orderFinding_44 : decode cX7_orderFinding 44 = .ok (.istore 4, 2) := by decide +kernel
theorem dX7_orderFinding_46 : decode cX7_orderFinding 46 = .ok (.aload_n 0, 1) := by decide +kernel
theorem dX7_orderFinding_47 : decode cX7_orderFinding 47 = .ok (.iload 4, 2) := by decide +kernel
theorem dX7_orderFinding_49 : decode cX7_orderFinding 49 = .ok (.invokevirtual 122, 3) := by decide +kernel
theorem dX7_orderFinding_52 : decode cX7_orderFinding 52 = .ok (.ifCond .eq 12, 3) := by decide +kernel
theorem dX7_orderFinding_55 : decode cX7_orderFinding 55 = .ok (.iload_n 2, 1) := by decide +kernel
theorem dX7_orderFinding_56 : decode cX7_orderFinding 56 = .ok (.iconst 1, 1) := by decide +kernel
theorem dX7_orderFinding_57 : decode cX7_orderFinding 57 = .ok (.iload 4, 2) := by decide +kernel
theorem dX7_orderFinding_59 : decode cX7_orderFinding 59 = .ok (.ishl, 1) := by decide +kernel
theorem dX7_orderFinding_60 : decode cX7_orderFinding 60 = .ok (.iand, 1) := by decide +kernel
theorem dX7_orderFinding_61 : decode cX7_orderFinding 61 = .ok (.ifCond .eq 5, 3) := by decide +kernel
theorem dX7_orderFinding_64 : decode cX7_orderFinding 64 = .ok (.iconst 3, 1) := by decide +kernel
theorem dX7_orderFinding_65 : decode cX7_orderFinding 65 = .ok (.ireturn, 1) := by decide +kernel
theorem dX7_orderFinding_66 : decode cX7_orderFinding 66 = .ok (.iload_n 2, 1) := by decide +kernel
theorem dX7_orderFinding_67 : decode cX7_orderFinding 67 = .ok (.iconst 1, 1) := by decide +kernel
theorem dX7_orderFinding_68 : decode cX7_orderFinding 68 = .ok (.iload 4, 2) := by decide +kernel
theorem dX7_orderFinding_70 : decode cX7_orderFinding 70 = .ok (.ishl, 1) := by decide +kernel
theorem dX7_orderFinding_71 : decode cX7_orderFinding 71 = .ok (.ior, 1) := by decide +kernel
theorem dX7_orderFinding_72 : decode cX7_orderFinding 72 = .ok (.istore_n 2, 1) := by decide +kernel
theorem dX7_orderFinding_73 : decode cX7_orderFinding 73 = .ok (.iinc 3 1, 3) := by decide +kernel
theorem dX7_orderFinding_76 : decode cX7_orderFinding 76 = .ok (.goto (-46), 3) := by decide +kernel
theorem dX7_orderFinding_79 : decode cX7_orderFinding 79 = .ok (.iconst 0, 1) := by decide +kernel
theorem dX7_orderFinding_80 : decode cX7_orderFinding 80 = .ok (.ireturn, 1) := by decide +kernel
theorem dX7_tellFraction_0 : decode cX7_tellFraction 0 = .ok (.lload_n 3, 1) := by decide +kernel
theorem dX7_tellFraction_1 : decode cX7_tellFraction 1 = .ok (.lload_n 1, 1) := by decide +kernel
theorem dX7_tellFraction_2 : decode cX7_tellFraction 2 = .ok (.invokestatic 348, 3) := by decide +kernel
theorem dX7_tellFraction_5 : decode cX7_tellFraction 5 = .ok (.lstore 5, 2) := by decide +kernel
theorem dX7_tellFraction_7 : decode cX7_tellFraction 7 = .ok (.aload_n 0, 1) := by decide +kernel
theorem dX7_tellFraction_8 : decode cX7_tellFraction 8 = .ok (.lload 5, 2) := by decide +kernel
theorem dX7_tellFraction_10 : decode cX7_tellFraction 10 = .ok (.lconst 0, 1) := by decide +kernel
theorem dX7_tellFraction_11 : decode cX7_tellFraction 11 = .ok (.lcmp, 1) := by decide +kernel
theorem dX7_tellFraction_12 : decode cX7_tellFraction 12 = .ok (.ifCond .ne 7, 3) := by decide +kernel
theorem dX7_tellFraction_15 : decode cX7_tellFraction 15 = .ok (.lconst 0, 1) := by decide +kernel
theorem dX7_tellFraction_16 : decode cX7_tellFraction 16 = .ok (.goto 7, 3) := by decide +kernel
theorem dX7_tellFraction_19 : decode cX7_tellFraction 19 = .ok (.lload_n 1, 1) := by decide +kernel
theorem dX7_tellFraction_20 : decode cX7_tellFraction 20 = .ok (.lload 5, 2) := by decide +kernel
theorem dX7_tellFraction_22 : decode cX7_tellFraction 22 = .ok (.ldiv, 1) := by decide +kernel
theorem dX7_tellFraction_23 : decode cX7_tellFraction 23 = .ok (.putfield 308, 3) := by decide +kernel
theorem dX7_tellFraction_26 : decode cX7_tellFraction 26 = .ok (.aload_n 0, 1) := by decide +kernel
theorem dX7_tellFraction_27 : decode cX7_tellFraction 27 = .ok (.lload 5, 2) := by decide +kernel
theorem dX7_tellFraction_29 : decode cX7_tellFraction 29 = .ok (.lconst 0, 1) := by decide +kernel
theorem dX7_tellFraction_30 : decode cX7_tellFraction 30 = .ok (.lcmp, 1) := by decide +kernel
theorem dX7_tellFraction_31 : decode cX7_tellFraction 31 = .ok (.ifCond .ne 7, 3) := by decide +kernel
theorem dX7_tellFraction_34 : decode cX7_tellFraction 34 = .ok (.lconst 1, 1) := by decide +kernel
theorem dX7_tellFraction_35 : decode cX7_tellFraction 35 = .ok (.goto 7, 3) := by decide +kernel
theorem dX7_tellFraction_38 : decode cX7_tellFraction 38 = .ok (.lload_n 3, 1) := by decide +kernel
theorem dX7_tellFraction_39 : decode cX7_tellFraction 39 = .ok (.lload 5, 2) := by decide +kernel
theorem dX7_tellFraction_41 : decode cX7_tellFraction 41 = .ok (.ldiv, 1) := by decide +kernel
theorem dX7_tellFraction_42 : decode cX7_tellFraction 42 = .ok (.putfield 56, 3) := by decide +kernel
theorem dX7_tellFraction_45 : decode cX7_tellFraction 45 = .ok (.return_, 1) := by decide +kernel
theorem dX7_commonDivisor_0 : decode cX7_commonDivisor 0 = .ok (.lload_n 0, 1) := by decide +kernel
theorem dX7_commonDivisor_1 : decode cX7_commonDivisor 1 = .ok (.lstore 4, 2) := by decide +kernel
theorem dX7_commonDivisor_3 : decode cX7_commonDivisor 3 = .ok (.lload_n 2, 1) := by decide +kernel
theorem dX7_commonDivisor_4 : decode cX7_commonDivisor 4 = .ok (.lstore 6, 2) := by decide +kernel
theorem dX7_commonDivisor_6 : decode cX7_commonDivisor 6 = .ok (.iconst 0, 1) := by decide +kernel
theorem dX7_commonDivisor_7 : decode cX7_commonDivisor 7 = .ok (.istore 8, 2) := by decide +kernel
theorem dX7_commonDivisor_9 : decode cX7_commonDivisor 9 = .ok (.iload 8, 2) := by decide +kernel
theorem dX7_commonDivisor_11 : decode cX7_commonDivisor 11 = .ok (.bipush 100, 2) := by decide +kernel
theorem dX7_commonDivisor_13 : decode cX7_commonDivisor 13 = .ok (.if_icmp .ge 31, 3) := by decide +kernel
theorem dX7_commonDivisor_16 : decode cX7_commonDivisor 16 = .ok (.lload 6, 2) := by decide +kernel
theorem dX7_commonDivisor_18 : decode cX7_commonDivisor 18 = .ok (.lconst 0, 1) := by decide +kernel
theorem dX7_commonDivisor_19 : decode cX7_commonDivisor 19 = .ok (.lcmp, 1) := by decide +kernel
theorem dX7_commonDivisor_20 : decode cX7_commonDivisor 20 = .ok (.ifCond .eq 24, 3) := by decide +kernel
theorem dX7_commonDivisor_23 : decode cX7_commonDivisor 23 = .ok (.lload 4, 2) := by decide +kernel
theorem dX7_commonDivisor_25 : decode cX7_commonDivisor 25 = .ok (.lload 6, 2) := by decide +kernel
theorem dX7_commonDivisor_27 : decode cX7_commonDivisor 27 = .ok (.lrem, 1) := by decide +kernel
theorem dX7_commonDivisor_28 : decode cX7_commonDivisor 28 = .ok (.lstore 9, 2) := by decide +kernel
theorem dX7_commonDivisor_30 : decode cX7_commonDivisor 30 = .ok (.lload 6, 2) := by decide +kernel
theorem dX7_commonDivisor_32 : decode cX7_commonDivisor 32 = .ok (.lstore 4, 2) := by decide +kernel
theorem dX7_commonDivisor_34 : decode cX7_commonDivisor 34 = .ok (.lload 9, 2) := by decide +kernel
theorem dX7_commonDivisor_36 : decode cX7_commonDivisor 36 = .ok (.lstore 6, 2) := by decide +kernel
theorem dX7_commonDivisor_38 : decode cX7_commonDivisor 38 = .ok (.iinc 8 1, 3) := by decide +kernel
theorem dX7_commonDivisor_41 : decode cX7_commonDivisor 41 = .ok (.goto (-32), 3) := by decide +kernel
theorem dX7_commonDivisor_44 : decode cX7_commonDivisor 44 = .ok (.lload 4, 2) := by decide +kernel
theorem dX7_commonDivisor_46 : decode cX7_commonDivisor 46 = .ok (.lreturn, 1) := by decide +kernel
theorem dX7_howManyThere_0 : decode cX7_howManyThere 0 = .ok (.iconst 0, 1) := by decide +kernel
theorem dX7_howManyThere_1 : decode cX7_howManyThere 1 = .ok (.istore_n 1, 1) := by decide +kernel
theorem dX7_howManyThere_2 : decode cX7_howManyThere 2 = .ok (.iconst 0, 1) := by decide +kernel
theorem dX7_howManyThere_3 : decode cX7_howManyThere 3 = .ok (.istore_n 2, 1) := by decide +kernel
theorem dX7_howManyThere_4 : decode cX7_howManyThere 4 = .ok (.iload_n 2, 1) := by decide +kernel
theorem dX7_howManyThere_5 : decode cX7_howManyThere 5 = .ok (.aload_n 0, 1) := by decide +kernel
theorem dX7_howManyThere_6 : decode cX7_howManyThere 6 = .ok (.arraylength, 1) := by decide +kernel
theorem dX7_howManyThere_7 : decode cX7_howManyThere 7 = .ok (.if_icmp .ge 26, 3) := by decide +kernel
theorem dX7_howManyThere_10 : decode cX7_howManyThere 10 = .ok (.iload_n 1, 1) := by decide +kernel
theorem dX7_howManyThere_11 : decode cX7_howManyThere 11 = .ok (.aload_n 0, 1) := by decide +kernel
theorem dX7_howManyThere_12 : decode cX7_howManyThere 12 = .ok (.iload_n 2, 1) := by decide +kernel
theorem dX7_howManyThere_13 : decode cX7_howManyThere 13 = .ok (.aaload, 1) := by decide +kernel
theorem dX7_howManyThere_14 : decode cX7_howManyThere 14 = .ok (.invokevirtual 94, 3) := by decide +kernel
theorem dX7_howManyThere_17 : decode cX7_howManyThere 17 = .ok (.ifCond .eq 7, 3) := by decide +kernel
theorem dX7_howManyThere_20 : decode cX7_howManyThere 20 = .ok (.iconst 0, 1) := by decide +kernel
theorem dX7_howManyThere_21 : decode cX7_howManyThere 21 = .ok (.goto 4, 3) := by decide +kernel
theorem dX7_howManyThere_24 : decode cX7_howManyThere 24 = .ok (.iconst 1, 1) := by decide +kernel
theorem dX7_howManyThere_25 : decode cX7_howManyThere 25 = .ok (.iadd, 1) := by decide +kernel
theorem dX7_howManyThere_26 : decode cX7_howManyThere 26 = .ok (.istore_n 1, 1) := by decide +kernel
theorem dX7_howManyThere_27 : decode cX7_howManyThere 27 = .ok (.iinc 2 1, 3) := by decide +kernel
theorem dX7_howManyThere_30 : decode cX7_howManyThere 30 = .ok (.goto (-26), 3) := by decide +kernel
theorem dX7_howManyThere_33 : decode cX7_howManyThere 33 = .ok (.iload_n 1, 1) := by decide +kernel
theorem dX7_howManyThere_34 : decode cX7_howManyThere 34 = .ok (.ireturn, 1) := by decide +kernel
theorem dX7_courtsKept_0 : decode cX7_courtsKept 0 = .ok (.iconst 0, 1) := by decide +kernel
theorem dX7_courtsKept_1 : decode cX7_courtsKept 1 = .ok (.istore_n 1, 1) := by decide +kernel
theorem dX7_courtsKept_2 : decode cX7_courtsKept 2 = .ok (.iconst 0, 1) := by decide +kernel
theorem dX7_courtsKept_3 : decode cX7_courtsKept 3 = .ok (.istore_n 2, 1) := by decide +kernel
theorem dX7_courtsKept_4 : decode cX7_courtsKept 4 = .ok (.iload_n 2, 1) := by decide +kernel
theorem dX7_courtsKept_5 : decode cX7_courtsKept 5 = .ok (.iconst 3, 1) := by decide +kernel
theorem dX7_courtsKept_6 : decode cX7_courtsKept 6 = .ok (.if_icmp .ge 30, 3) := by decide +kernel
theorem dX7_courtsKept_9 : decode cX7_courtsKept 9 = .ok (.iload_n 1, 1) := by decide +kernel
theorem dX7_courtsKept_10 : decode cX7_courtsKept 10 = .ok (.aload_n 0, 1) := by decide +kernel
theorem dX7_courtsKept_11 : decode cX7_courtsKept 11 = .ok (.getfield 34, 3) := by decide +kernel
theorem dX7_courtsKept_14 : decode cX7_courtsKept 14 = .ok (.iload_n 2, 1) := by decide +kernel
theorem dX7_courtsKept_15 : decode cX7_courtsKept 15 = .ok (.aaload, 1) := by decide +kernel
theorem dX7_courtsKept_16 : decode cX7_courtsKept 16 = .ok (.getfield 120, 3) := by decide +kernel
theorem dX7_courtsKept_19 : decode cX7_courtsKept 19 = .ok (.iconst (-1), 1) := by decide +kernel
theorem dX7_courtsKept_20 : decode cX7_courtsKept 20 = .ok (.if_icmp .ne 7, 3) := by decide +kernel
theorem dX7_courtsKept_23 : decode cX7_courtsKept 23 = .ok (.iconst 0, 1) := by decide +kernel
theorem dX7_courtsKept_24 : decode cX7_courtsKept 24 = .ok (.goto 4, 3) := by decide +kernel
theorem dX7_courtsKept_27 : decode cX7_courtsKept 27 = .ok (.iconst 1, 1) := by decide +kernel
theorem dX7_courtsKept_28 : decode cX7_courtsKept 28 = .ok (.iadd, 1) := by decide +kernel
theorem dX7_courtsKept_29 : decode cX7_courtsKept 29 = .ok (.istore_n 1, 1) := by decide +kernel
theorem dX7_courtsKept_30 : decode cX7_courtsKept 30 = .ok (.iinc 2 1, 3) := by decide +kernel
theorem dX7_courtsKept_33 : decode cX7_courtsKept 33 = .ok (.goto (-29), 3) := by decide +kernel
theorem dX7_courtsKept_36 : decode cX7_courtsKept 36 = .ok (.iload_n 1, 1) := by decide +kernel
theorem dX7_courtsKept_37 : decode cX7_courtsKept 37 = .ok (.ireturn, 1) := by decide +kernel
theorem dX8_init_0 : decode cX8_init 0 = .ok (.aload_n 0, 1) := by decide +kernel
theorem dX8_init_1 : decode cX8_init 1 = .ok (.invokespecial 1, 3) := by decide +kernel
theorem dX8_init_4 : decode cX8_init 4 = .ok (.aload_n 0, 1) := by decide +kernel
theorem dX8_init_5 : decode cX8_init 5 = .ok (.sipush 2645, 3) := by decide +kernel
theorem dX8_init_8 : decode cX8_init 8 = .ok (.newarray .int, 2) := by decide +kernel
theorem dX8_init_10 : decode cX8_init 10 = .ok (.putfield 7, 3) := by decide +kernel
theorem dX8_init_13 : decode cX8_init 13 = .ok (.aload_n 0, 1) := by decide +kernel
theorem dX8_init_14 : decode cX8_init 14 = .ok (.bipush 6, 2) := by decide +kernel
theorem dX8_init_16 : decode cX8_init 16 = .ok (.newarray .int, 2) := by decide +kernel
theorem dX8_init_18 : decode cX8_init 18 = .ok (.putfield 13, 3) := by decide +kernel
theorem dX8_init_21 : decode cX8_init 21 = .ok (.aload_n 0, 1) := by decide +kernel
theorem dX8_init_22 : decode cX8_init 22 = .ok (.bipush 6, 2) := by decide +kernel
theorem dX8_init_24 : decode cX8_init 24 = .ok (.newarray .int, 2) := by decide +kernel
theorem dX8_init_26 : decode cX8_init 26 = .ok (.putfield 16, 3) := by decide +kernel
theorem dX8_init_29 : decode cX8_init 29 = .ok (.aload_n 0, 1) := by decide +kernel
theorem dX8_init_30 : decode cX8_init 30 = .ok (.bipush 6, 2) := by decide +kernel
theorem dX8_init_32 : decode cX8_init 32 = .ok (.newarray .int, 2) := by decide +kernel
theorem dX8_init_34 : decode cX8_init 34 = .ok (.putfield 19, 3) := by decide +kernel
theorem dX8_init_37 : decode cX8_init 37 = .ok (.aload_n 0, 1) := by decide +kernel
theorem dX8_init_38 : decode cX8_init 38 = .ok (.bipush 6, 2) := by decide +kernel
theorem dX8_init_40 : decode cX8_init 40 = .ok (.newarray .int, 2) := by decide +kernel
theorem dX8_init_42 : decode cX8_init 42 = .ok (.putfield 22, 3) := by decide +kernel
theorem dX8_init_45 : decode cX8_init 45 = .ok (.aload_n 0, 1) := by decide +kernel
theorem dX8_init_46 : decode cX8_init 46 = .ok (.bipush 6, 2) := by decide +kernel
theorem dX8_init_48 : decode cX8_init 48 = .ok (.newarray .int, 2) := by decide +kernel
theorem dX8_init_50 : decode cX8_init 50 = .ok (.dup, 1) := by decide +kernel
theorem dX8_init_51 : decode cX8_init 51 = .ok (.iconst 0, 1) := by decide +kernel
theorem dX8_init_52 : decode cX8_init 52 = .ok (.iconst (-1), 1) := by decide +kernel
theorem dX8_init_53 : decode cX8_init 53 = .ok (.iastore, 1) := by decide +kernel
theorem dX8_init_54 : decode cX8_init 54 = .ok (.dup, 1) := by decide +kernel
theorem dX8_init_55 : decode cX8_init 55 = .ok (.iconst 1, 1) := by decide +kernel
theorem dX8_init_56 : decode cX8_init 56 = .ok (.iconst (-1), 1) := by decide +kernel
theorem dX8_init_57 : decode cX8_init 57 = .ok (.iastore, 1) := by decide +kernel
theorem dX8_init_58 : decode cX8_init 58 = .ok (.dup, 1) := by decide +kernel
theorem dX8_init_59 : decode cX8_init 59 = .ok (.iconst 2, 1) := by decide +kernel
theorem dX8_init_60 : decode cX8_init 60 = .ok (.iconst (-1), 1) := by decide +kernel
theorem dX8_init_61 : decode cX8_init 61 = .ok (.iastore, 1) := by decide +kernel
theorem dX8_init_62 : decode cX8_init 62 = .ok (.dup, 1) := by decide +kernel
theorem dX8_init_63 : decode cX8_init 63 = .ok (.iconst 3, 1) := by decide +kernel
theorem dX8_init_64 : decode cX8_init 64 = .ok (.iconst (-1), 1) := by decide +kernel
theorem dX8_init_65 : decode cX8_init 65 = .ok (.iastore, 1) := by decide +kernel
theorem dX8_init_66 : decode cX8_init 66 = .ok (.dup, 1) := by decide +kernel
theorem dX8_init_67 : decode cX8_init 67 = .ok (.iconst 4, 1) := by decide +kernel
theorem dX8_init_68 : decode cX8_init 68 = .ok (.iconst (-1), 1) := by decide +kernel
theorem dX8_init_69 : decode cX8_init 69 = .ok (.iastore, 1) := by decide +kernel
theorem dX8_init_70 : decode cX8_init 70 = .ok (.dup, 1) := by decide +kernel
theorem dX8_init_71 : decode cX8_init 71 = .ok (.iconst 5, 1) := by decide +kernel
theorem dX8_init_72 : decode cX8_init 72 = .ok (.iconst (-1), 1) := by decide +kernel
theorem dX8_init_73 : decode cX8_init 73 = .ok (.iastore, 1) := by decide +kernel
theorem dX8_init_74 : decode cX8_init 74 = .ok (.putfield 25, 3) := by decide +kernel
theorem dX8_init_77 : decode cX8_init 77 = .ok (.aload_n 0, 1) := by decide +kernel
theorem dX8_init_78 : decode cX8_init 78 = .ok (.sipush 240, 3) := by decide +kernel
theorem dX8_init_81 : decode cX8_init 81 = .ok (.newarray .int, 2) := by decide +kernel
theorem dX8_init_83 : decode cX8_init 83 = .ok (.putfield 28, 3) := by decide +kernel
theorem dX8_init_86 : decode cX8_init 86 = .ok (.aload_n 0, 1) := by decide +kernel
theorem dX8_init_87 : decode cX8_init 87 = .ok (.iconst 4, 1) := by decide +kernel
theorem dX8_init_88 : decode cX8_init 88 = .ok (.newarray .int, 2) := by decide +kernel
theorem dX8_init_90 : decode cX8_init 90 = .ok (.dup, 1) := by decide +kernel
theorem dX8_init_91 : decode cX8_init 91 = .ok (.iconst 0, 1) := by decide +kernel
theorem dX8_init_92 : decode cX8_init 92 = .ok (.iconst (-1), 1) := by decide +kernel
theorem dX8_init_93 : decode cX8_init 93 = .ok (.iastore, 1) := by decide +kernel
theorem dX8_init_94 : decode cX8_init 94 = .ok (.dup, 1) := by decide +kernel
theorem dX8_init_95 : decode cX8_init 95 = .ok (.iconst 1, 1) := by decide +kernel
theorem dX8_init_96 : decode cX8_init 96 = .ok (.iconst (-1), 1) := by decide +kernel
theorem dX8_init_97 : decode cX8_init 97 = .ok (.iastore, 1) := by decide +kernel
theorem dX8_init_98 : decode cX8_init 98 = .ok (.dup, 1) := by decide +kernel
theorem dX8_init_99 : decode cX8_init 99 = .ok (.iconst 2, 1) := by decide +kernel
theorem dX8_init_100 : decode cX8_init 100 = .ok (.iconst (-1), 1) := by decide +kernel
theorem dX8_init_101 : decode cX8_init 101 = .ok (.iastore, 1) := by decide +kernel
theorem dX8_init_102 : decode cX8_init 102 = .ok (.dup, 1) := by decide +kernel
theorem dX8_init_103 : decode cX8_init 103 = .ok (.iconst 3, 1) := by decide +kernel
theorem dX8_init_104 : decode cX8_init 104 = .ok (.iconst (-1), 1) := by decide +kernel
theorem dX8_init_105 : decode cX8_init 105 = .ok (.iastore, 1) := by decide +kernel
theorem dX8_init_106 : decode cX8_init 106 = .ok (.putfield 31, 3) := by decide +kernel
theorem dX8_init_109 : decode cX8_init 109 = .ok (.aload_n 0, 1) := by decide +kernel
theorem dX8_init_110 : decode cX8_init 110 = .ok (.sipush 240, 3) := by decide +kernel
theorem dX8_init_113 : decode cX8_init 113 = .ok (.newarray .int, 2) := by decide +kernel
theorem dX8_init_115 : decode cX8_init 115 = .ok (.putfield 34, 3) := by decide +kernel
theorem dX8_init_118 : decode cX8_init 118 = .ok (.aload_n 0, 1) := by decide +kernel
theorem dX8_init_119 : decode cX8_init 119 = .ok (.lconst 1, 1) := by decide +kernel
theorem dX8_init_120 : decode cX8_init 120 = .ok (.putfield 37, 3) := by decide +kernel
theorem dX8_init_123 : decode cX8_init 123 = .ok (.aload_n 0, 1) := by decide +kernel
theorem dX8_init_124 : decode cX8_init 124 = .ok (.bipush 6, 2) := by decide +kernel
theorem dX8_init_126 : decode cX8_init 126 = .ok (.newarray .int, 2) := by decide +kernel
theorem dX8_init_128 : decode cX8_init 128 = .ok (.putfield 41, 3) := by decide +kernel
theorem dX8_init_131 : decode cX8_init 131 = .ok (.aload_n 0, 1) := by decide +kernel
theorem dX8_init_132 : decode cX8_init 132 = .ok (.iconst 4, 1) := by decide +kernel
theorem dX8_init_133 : decode cX8_init 133 = .ok (.newarray .int, 2) := by decide +kernel
theorem dX8_init_135 : decode cX8_init 135 = .ok (.putfield 44, 3) := by decide +kernel
theorem dX8_init_138 : decode cX8_init 138 = .ok (.aload_n 0, 1) := by decide +kernel
theorem dX8_init_139 : decode cX8_init 139 = .ok (.bipush 24, 2) := by decide +kernel
theorem dX8_init_141 : decode cX8_init 141 = .ok (.newarray .int, 2) := by decide +kernel
theorem dX8_init_143 : decode cX8_init 143 = .ok (.putfield 47, 3) := by decide +kernel
theorem dX8_init_146 : decode cX8_init 146 = .ok (.aload_n 0, 1) := by decide +kernel
theorem dX8_init_147 : decode cX8_init 147 = .ok (.bipush 6, 2) := by decide +kernel
theorem dX8_init_149 : decode cX8_init 149 = .ok (.newarray .int, 2) := by decide +kernel
theorem dX8_init_151 : decode cX8_init 151 = .ok (.putfield 50, 3) := by decide +kernel
theorem dX8_init_154 : decode cX8_init 154 = .ok (.aload_n 0, 1) := by decide +kernel
theorem dX8_init_155 : decode cX8_init 155 = .ok (.iconst 3, 1) := by decide +kernel
theorem dX8_init_156 : decode cX8_init 156 = .ok (.newarray .int, 2) := by decide +kernel
theorem dX8_init_158 : decode cX8_init 158 = .ok (.putfield 53, 3) := by decide +kernel
theorem dX8_init_161 : decode cX8_init 161 = .ok (.aload_n 0, 1) := by decide +kernel
theorem dX8_init_162 : decode cX8_init 162 = .ok (.bipush 31, 2) := by decide +kernel
theorem dX8_init_164 : decode cX8_init 164 = .ok (.newarray .int, 2) := by decide +kernel
theorem dX8_init_166 : decode cX8_init 166 = .ok (.putfield 56, 3) := by decide +kernel
theorem dX8_init_169 : decode cX8_init 169 = .ok (.aload_n 0, 1) := by decide +kernel
theorem dX8_init_170 : decode cX8_init 170 = .ok (.bipush 31, 2) := by decide +kernel
theorem dX8_init_172 : decode cX8_init 172 = .ok (.newarray .int, 2) := by decide +kernel
theorem dX8_init_174 : decode cX8_init 174 = .ok (.putfield 59, 3) := by decide +kernel
theorem dX8_init_177 : decode cX8_init 177 = .ok (.aload_n 0, 1) := by decide +kernel
theorem dX8_init_178 : decode cX8_init 178 = .ok (.invokevirtual 62, 3) := by decide +kernel
theorem dX8_init_181 : decode cX8_init 181 = .ok (.return_, 1) := by decide +kernel
theorem dX8_layBegun_0 : decode cX8_layBegun 0 = .ok (.iconst 0, 1) := by decide +kernel
theorem dX8_layBegun_1 : decode cX8_layBegun 1 = .ok (.istore_n 1, 1) := by decide +kernel
theorem dX8_layBegun_2 : decode cX8_layBegun 2 = .ok (.iload_n 1, 1) := by decide +kernel
theorem dX8_layBegun_3 : decode cX8_layBegun 3 = .ok (.sipush 657, 3) := by decide +kernel
theorem dX8_layBegun_6 : decode cX8_layBegun 6 = .ok (.if_icmp .ge 16, 3) := by decide +kernel
theorem dX8_layBegun_9 : decode cX8_layBegun 9 = .ok (.aload_n 0, 1) := by decide +kernel
theorem dX8_layBegun_10 : decode cX8_layBegun 10 = .ok (.getfield 7, 3) := by decide +kernel
theorem dX8_layBegun_13 : decode cX8_layBegun 13 = .ok (.iload_n 1, 1) := by decide +kernel
theorem dX8_layBegun_14 : decode cX8_layBegun 14 = .ok (.iconst 0, 1) := by decide +kernel
theorem dX8_layBegun_15 : decode cX8_layBegun 15 = .ok (.iastore, 1) := by decide +kernel
theorem dX8_layBegun_16 : decode cX8_layBegun 16 = .ok (.iinc 1 1, 3) := by decide +kernel
theorem dX8_layBegun_19 : decode cX8_layBegun 19 = .ok (.goto (-17), 3) := by decide +kernel
theorem dX8_layBegun_22 : decode cX8_layBegun 22 = .ok (.aload_n 0, 1) := by decide +kernel
theorem dX8_layBegun_23 : decode cX8_layBegun 23 = .ok (.getfield 7, 3) := by decide +kernel
theorem dX8_layBegun_26 : decode cX8_layBegun 26 = .ok (.iconst 1, 1) := by decide +kernel
theorem dX8_layBegun_27 : decode cX8_layBegun 27 = .ok (.bipush 8, 2) := by decide +kernel
theorem dX8_layBegun_29 : decode cX8_layBegun 29 = .ok (.iastore, 1) := by decide +kernel
theorem dX8_layBegun_30 : decode cX8_layBegun 30 = .ok (.iconst 0, 1) := by decide +kernel
theorem dX8_layBegun_31 : decode cX8_layBegun 31 = .ok (.istore_n 1, 1) := by decide +kernel
theorem dX8_layBegun_32 : decode cX8_layBegun 32 = .ok (.iload_n 1, 1) := by decide +kernel
theorem dX8_layBegun_33 : decode cX8_layBegun 33 = .ok (.bipush 6, 2) := by decide +kernel
theorem dX8_layBegun_35 : decode cX8_layBegun 35 = .ok (.if_icmp .ge 20, 3) := by decide +kernel
theorem dX8_layBegun_38 : decode cX8_layBegun 38 = .ok (.aload_n 0, 1) := by decide +kernel
theorem dX8_layBegun_39 : decode cX8_layBegun 39 = .ok (.getfield 7, 3) := by decide +kernel
theorem dX8_layBegun_42 : decode cX8_layBegun 42 = .ok (.bipush 11, 2) := by decide +kernel
theorem dX8_layBegun_44 : decode cX8_layBegun 44 = .ok (.iload_n 1, 1) := by decide +kernel
theorem dX8_layBegun_45 : decode cX8_layBegun 45 = .ok (.iadd, 1) := by decide +kernel
theorem dX8_layBegun_46 : decode cX8_layBegun 46 = .ok (.bipush (-9), 2) := by decide +kernel
theorem dX8_layBegun_48 : decode cX8_layBegun 48 = .ok (.iastore, 1) := by decide +kernel
theorem dX8_layBegun_49 : decode cX8_layBegun 49 = .ok (.iinc 1 1, 3) := by decide +kernel
theorem dX8_layBegun_52 : decode cX8_layBegun 52 = .ok (.goto (-20), 3) := by decide +kernel
theorem dX8_layBegun_55 : decode cX8_layBegun 55 = .ok (.iconst 1, 1) := by decide +kernel
theorem dX8_layBegun_56 : decode cX8_layBegun 56 = .ok (.istore_n 1, 1) := by decide +kernel
theorem dX8_layBegun_57 : decode cX8_layBegun 57 = .ok (.iload_n 1, 1) := by decide +kernel
theorem dX8_layBegun_58 : decode cX8_layBegun 58 = .ok (.iconst 4, 1) := by decide +kernel
theorem dX8_layBegun_59 : decode cX8_layBegun 59 = .ok (.if_icmp .ge 22, 3) := by decide +kernel
theorem dX8_layBegun_62 : decode cX8_layBegun 62 = .ok (.aload_n 0, 1) := by decide +kernel
theorem dX8_layBegun_63 : decode cX8_layBegun 63 = .ok (.getfield 7, 3) := by decide +kernel
theorem dX8_layBegun_66 : decode cX8_layBegun 66 = .ok (.sipush 657, 3) := by decide +kernel
theorem dX8_layBegun_69 : decode cX8_layBegun 69 = .ok (.iload_n 1, 1) := by decide +kernel
theorem dX8_layBegun_70 : decode cX8_layBegun 70 = .ok (.imul, 1) := by decide +kernel
theorem dX8_layBegun_71 : decode cX8_layBegun 71 = .ok (.iconst 0, 1) := by decide +kernel
theorem dX8_layBegun_72 : decode cX8_layBegun 72 = .ok (.iadd, 1) := by decide +kernel
theorem dX8_layBegun_73 : decode cX8_layBegun 73 = .ok (.iconst (-1), 1) := by decide +kernel
theorem dX8_layBegun_74 : decode cX8_layBegun 74 = .ok (.iastore, 1) := by decide +kernel
theorem dX8_layBegun_75 : decode cX8_layBegun 75 = .ok (.iinc 1 1, 3) := by decide +kernel
theorem dX8_layBegun_78 : decode cX8_layBegun 78 = .ok (.goto (-21), 3) := by decide +kernel
theorem dX8_layBegun_81 : decode cX8_layBegun 81 = .ok (.return_, 1) := by decide +kernel
theorem dX8_bits_0 : decode cX8_bits 0 = .ok (.iconst 0, 1) := by decide +kernel
theorem dX8_bits_1 : decode cX8_bits 1 = .ok (.istore_n 1, 1) := by decide +kernel
theorem dX8_bits_2 : decode cX8_bits 2 = .ok (.iconst 0, 1) := by decide +kernel
theorem dX8_bits_3 : decode cX8_bits 3 = .ok (.istore_n 2, 1) := by decide +kernel
theorem dX8_bits_4 : decode cX8_bits 4 = .ok (.iload_n 2, 1) := by decide +kernel
theorem dX8_bits_5 : decode cX8_bits 5 = .ok (.bipush 31, 2) := by decide +kernel
theorem dX8_bits_7 : decode cX8_bits 7 = .ok (.if_icmp .ge 17, 3) := by decide +kernel
theorem dX8_bits_10 : decode cX8_bits 10 = .ok (.iload_n 1, 1) := by decide +kernel
theorem dX8_bits_11 : decode cX8_bits 11 = .ok (.iload_n 0, 1) := by decide +kernel
theorem dX8_bits_12 : decode cX8_bits 12 = .ok (.iload_n 2, 1) := by decide +kernel
theorem dX8_bits_13 : decode cX8_bits 13 = .ok (.ishr, 1) := by decide +kernel
theorem dX8_bits_14 : decode cX8_bits 14 = .ok (.iconst 1, 1) := by decide +kernel
theorem dX8_bits_15 : decode cX8_bits 15 = .ok (.iand, 1) := by decide +kernel
theorem dX8_bits_16 : decode cX8_bits 16 = .ok (.iadd, 1) := by decide +kernel
theorem dX8_bits_17 : decode cX8_bits 17 = .ok (.istore_n 1, 1) := by decide +kernel
theorem dX8_bits_18 : decode cX8_bits 18 = .ok (.iinc 2 1, 3) := by decide +kernel
theorem dX8_bits_21 : decode cX8_bits 21 = .ok (.goto (-17), 3) := by decide +kernel
theorem dX8_bits_24 : decode cX8_bits 24 = .ok (.iload_n 1, 1) := by decide +kernel
theorem dX8_bits_25 : decode cX8_bits 25 = .ok (.ireturn, 1) := by decide +kernel
theorem dX8_some_0 : decode cX8_some 0 = .ok (.iload_n 0, 1) := by decide +kernel
theorem dX8_some_1 : decode cX8_some 1 = .ok (.ifCond .ge 7, 3) := by decide +kernel
theorem dX8_some_4 : decode cX8_some 4 = .ok (.iconst 0, 1) := by decide +kernel
theorem dX8_some_5 : decode cX8_some 5 = .ok (.goto 4, 3) := by decide +kernel
theorem dX8_some_8 : decode cX8_some 8 = .ok (.iload_n 0, 1) := by decide +kernel
theorem dX8_some_9 : decode cX8_some 9 = .ok (.ireturn, 1) := by decide +kernel
theorem dX8_in_0 : decode cX8_in 0 = .ok (.lload_n 0, 1) := by decide +kernel
theorem dX8_in_1 : decode cX8_in 1 = .ok (.lload_n 2, 1) := by decide +kernel
theorem dX8_in_2 : decode cX8_in 2 = .ok (.lcmp, 1) := by decide +kernel
theorem dX8_in_3 : decode cX8_in 3 = .ok (.ifCond .lt 14, 3) := by decide +kernel
theorem dX8_in_6 : decode cX8_in 6 = .ok (.lload_n 0, 1) := by decide +kernel
theorem dX8_in_7 : decode cX8_in 7 = .ok (.lload 4, 2) := by decide +kernel
theorem dX8_in_9 : decode cX8_in 9 = .ok (.lcmp, 1) := by decide +kernel
theorem dX8_in_10 : decode cX8_in 10 = .ok (.ifCond .gt 7, 3) := by decide +kernel
theorem dX8_in_13 : decode cX8_in 13 = .ok (.iconst 1, 1) := by decide +kernel
theorem dX8_in_14 : decode cX8_in 14 = .ok (.goto 4, 3) := by decide +kernel
theorem dX8_in_17 : decode cX8_in 17 = .ok (.iconst 0, 1) := by decide +kernel
theorem dX8_in_18 : decode cX8_in 18 = .ok (.ireturn, 1) := by decide +kernel
theorem dX8_has_0 : decode cX8_has 0 = .ok (.iload_n 0, 1) := by decide +kernel
theorem dX8_has_1 : decode cX8_has 1 = .ok (.iload_n 1, 1) := by decide +kernel
theorem dX8_has_2 : decode cX8_has 2 = .ok (.ishr, 1) := by decide +kernel
theorem dX8_has_3 : decode cX8_has 3 = .ok (.iconst 1, 1) := by decide +kernel
theorem dX8_has_4 : decode cX8_has 4 = .ok (.iand, 1) := by decide +kernel
theorem dX8_has_5 : decode cX8_has 5 = .ok (.iconst 1, 1) := by decide +kernel
theorem dX8_has_6 : decode cX8_has 6 = .ok (.if_icmp .ne 7, 3) := by decide +kernel
theorem dX8_has_9 : decode cX8_has 9 = .ok (.iconst 1, 1) := by decide +kernel
theorem dX8_has_10 : decode cX8_has 10 = .ok (.goto 4, 3) := by decide +kernel
theorem dX8_has_13 : decode cX8_has 13 = .ok (.iconst 0, 1) := by decide +kernel
theorem dX8_has_14 : decode cX8_has 14 = .ok (.ireturn, 1) := by decide +kernel
theorem dX8_find_0 : decode cX8_find 0 = .ok (.aload_n 0, 1) := by decide +kernel
theorem dX8_find_1 : decode cX8_find 1 = .ok (.iload_n 1, 1) := by decide +kernel
theorem dX8_find_2 : decode cX8_find 2 = .ok (.putfield 65, 3) := by decide +kernel
theorem dX8_find_5 : decode cX8_find 5 = .ok (.aload_n 0, 1) := by decide +kernel
theorem dX8_find_6 : decode cX8_find 6 = .ok (.getfield 41, 3) := by decide +kernel
theorem dX8_find_9 : decode cX8_find 9 = .ok (.iload_n 1, 1) := by decide +kernel
theorem dX8_find_10 : decode cX8_find 10 = .ok (.dup2, 1) := by decide +kernel
theorem dX8_find_11 : decode cX8_find 11 = .ok (.iaload, 1) := by decide +kernel
theorem dX8_find_12 : decode cX8_find 12 = .ok (.iconst 1, 1) := by decide +kernel
theorem dX8_find_13 : decode cX8_find 13 = .ok (.iadd, 1) := by decide +kernel
theorem dX8_find_14 : decode cX8_find 14 = .ok (.iastore, 1) := by decide +kernel
theorem dX8_find_15 : decode cX8_find 15 = .ok (.bipush (-3), 2) := by decide +kernel
theorem dX8_find_17 : decode cX8_find 17 = .ok (.ireturn, 1) := by decide +kernel
theorem dX8_tell_0 : decode cX8_tell 0 = .ok (.aload_n 0, 1) := by decide +kernel
theorem dX8_tell_1 : decode cX8_tell 1 = .ok (.iload_n 1, 1) := by decide +kernel
theorem dX8_tell_2 : decode cX8_tell 2 = .ok (.putfield 69, 3) := by decide +kernel
theorem dX8_tell_5 : decode cX8_tell 5 = .ok (.iconst 1, 1) := by decide +kernel
theorem dX8_tell_6 : decode cX8_tell 6 = .ok (.ireturn, 1) := by decide +kernel
theorem dX8_isRow_0 : decode cX8_isRow 0 = .ok (.iload_n 0, 1) := by decide +kernel
theorem dX8_isRow_1 : decode cX8_isRow 1 = .ok (.i2l, 1) := by decide +kernel
theorem dX8_isRow_2 : decode cX8_isRow 2 = .ok (.lconst 0, 1) := by decide +kernel
theorem dX8_isRow_3 : decode cX8_isRow 3 = .ok (.ldc2_w 72, 3) := by decide +kernel
theorem dX8_isRow_6 : decode cX8_isRow 6 = .ok (.invokestatic 74, 3) := by decide +kernel
theorem dX8_isRow_9 : decode cX8_isRow 9 = .ok (.ireturn, 1) := by decide +kernel
theorem dX8_isText_0 : decode cX8_isText 0 = .ok (.iload_n 0, 1) := by decide +kernel
theorem dX8_isText_1 : decode cX8_isText 1 = .ok (.i2l, 1) := by decide +kernel
theorem dX8_isText_2 : decode cX8_isText 2 = .ok (.lconst 0, 1) := by decide +kernel
theorem dX8_isText_3 : decode cX8_isText 3 = .ok (.ldc2_w 78, 3) := by decide +kernel
theorem dX8_isText_6 : decode cX8_isText 6 = .ok (.invokestatic 74, 3) := by decide +kernel
theorem dX8_isText_9 : decode cX8_isText 9 = .ok (.ireturn, 1) := by decide +kernel
theorem dX8_row_0 : decode cX8_row 0 = .ok (.iload_n 1, 1) := by decide +kernel
theorem dX8_row_1 : decode cX8_row 1 = .ok (.invokestatic 80, 3) := by decide +kernel
theorem dX8_row_4 : decode cX8_row 4 = .ok (.ifCond .eq 9, 3) := by decide +kernel
theorem dX8_row_7 : decode cX8_row 7 = .ok (.iload_n 2, 1) := by decide +kernel
theorem dX8_row_8 : decode cX8_row 8 = .ok (.bipush 40, 2) := by decide +kernel
theorem dX8_row_10 : decode cX8_row 10 = .ok (.if_icmp .le 5, 3) := by decide +kernel
theorem dX8_row_13 : decode cX8_row 13 = .ok (.iconst (-1), 1) := by decide +kernel
theorem dX8_row_14 : decode cX8_row 14 = .ok (.ireturn, 1) := by decide +kernel
theorem dX8_row_15 : decode cX8_row 15 = .ok (.iload_n 2, 1) := by decide +kernel
theorem dX8_row_16 : decode cX8_row 16 = .ok (.ifCond .ge 9, 3) := by decide +kernel
theorem dX8_row_19 : decode cX8_row 19 = .ok (.aload_n 0, 1) := by decide +kernel
theorem dX8_row_20 : decode cX8_row 20 = .ok (.iconst 5, 1) := by decide +kernel
theorem dX8_row_21 : decode cX8_row 21 = .ok (.invokevirtual 84, 3) := by decide +kernel
theorem dX8_row_24 : decode cX8_row 24 = .ok (.ireturn, 1) := by decide +kernel
theorem dX8_row_25 : decode cX8_row 25 = .ok (.aload_n 0, 1) := by decide +kernel
theorem dX8_row_26 : decode cX8_row 26 = .ok (.iload_n 1, 1) := by decide +kernel
theorem dX8_row_27 : decode cX8_row 27 = .ok (.iload_n 2, 1) := by decide +kernel
theorem dX8_row_28 : decode cX8_row 28 = .ok (.invokevirtual 88, 3) := by decide +kernel
theorem dX8_row_31 : decode cX8_row 31 = .ok (.iload_n 2, 1) := by decide +kernel
theorem dX8_row_32 : decode cX8_row 32 = .ok (.ireturn, 1) := by decide +kernel
theorem dX8_makeRow_0 : decode cX8_makeRow 0 = .ok (.aload_n 0, 1) := by decide +kernel
theorem dX8_makeRow_1 : decode cX8_makeRow 1 = .ok (.getfield 25, 3) := by decide +kernel
theorem dX8_makeRow_4 : decode cX8_makeRow 4 = .ok (.iload_n 1, 1) := by decide +kernel
theorem dX8_makeRow_5 : decode cX8_makeRow 5 = .ok (.iload_n 2, 1) := by decide +kernel
theorem dX8_makeRow_6 : decode cX8_makeRow 6 = .ok (.iastore, 1) := by decide +kernel
theorem dX8_makeRow_7 : decode cX8_makeRow 7 = .ok (.iconst 0, 1) := by decide +kernel
theorem dX8_makeRow_8 : decode cX8_makeRow 8 = .ok (.istore_n 3, 1) := by decide +kernel
theorem dX8_makeRow_9 : decode cX8_makeRow 9 = .ok (.iload_n 3, 1) := by decide +kernel
theorem dX8_makeRow_10 : decode cX8_makeRow 10 = .ok (.bipush 40, 2) := by decide +kernel
theorem dX8_makeRow_12 : decode cX8_makeRow 12 = .ok (.if_icmp .ge 21, 3) := by decide +kernel
theorem dX8_makeRow_15 : decode cX8_makeRow 15 = .ok (.aload_n 0, 1) := by decide +kernel
theorem dX8_makeRow_16 : decode cX8_makeRow 16 = .ok (.getfield 28, 3) := by decide +kernel
theorem dX8_makeRow_19 : decode cX8_makeRow 19 = .ok (.bipush 40, 2) := by decide +kernel
theorem dX8_makeRow_21 : decode cX8_makeRow 21 = .ok (.iload_n 1, 1) := by decide +kernel
theorem dX8_makeRow_22 : decode cX8_makeRow 22 = .ok (.imul, 1) := by decide +kernel
theorem dX8_makeRow_23 : decode cX8_makeRow 23 = .ok (.iload_n 3, 1) := by decide +kernel
theorem dX8_makeRow_24 : decode cX8_makeRow 24 = .ok (.iadd, 1) := by decide +kernel
theorem dX8_makeRow_25 : decode cX8_makeRow 25 = .ok (.iconst 0, 1) := by decide +kernel
theorem dX8_makeRow_26 : decode cX8_makeRow 26 = .ok (.iastore, 1) := by decide +kernel
theorem dX8_makeRow_27 : decode cX8_makeRow 27 = .ok (.iinc 3 1, 3) := by decide +kernel
theorem dX8_makeRow_30 : decode cX8_makeRow 30 = .ok (.goto (-21), 3) := by decide +kernel
theorem dX8_makeRow_33 : decode cX8_makeRow 33 = .ok (.return_, 1) := by decide +kernel
theorem dX8_refused_0 : decode cX8_refused 0 = .ok (.iload_n 1, 1) := by decide +kernel
theorem dX8_refused_1 : decode cX8_refused 1 = .ok (.invokestatic 80, 3) := by decide +kernel
theorem dX8_refused_4 : decode cX8_refused 4 = .ok (.ifCond .ne 7, 3) := by decide +kernel
theorem dX8_refused_7 : decode cX8_refused 7 = .ok (.iconst (-1), 1) := by decide +kernel
theorem dX8_refused_8 : decode cX8_refused 8 = .ok (.goto 47, 3) := by decide +kernel
theorem dX8_refused_11 : decode cX8_refused 11 = .ok (.aload_n 0, 1) := by decide +kernel
theorem dX8_refused_12 : decode cX8_refused 12 = .ok (.getfield 25, 3) := by decide +kernel
theorem dX8_refused_15 : decode cX8_refused 15 = .ok (.iload_n 1, 1) := by decide +kernel
theorem dX8_refused_16 : decode cX8_refused 16 = .ok (.iaload, 1) := by decide +kernel
theorem dX8_refused_17 : decode cX8_refused 17 = .ok (.ifCond .ge 11, 3) := by decide +kernel
theorem dX8_refused_20 : decode cX8_refused 20 = .ok (.aload_n 0, 1) := by decide +kernel
theorem dX8_refused_21 : decode cX8_refused 21 = .ok (.iconst 1, 1) := by decide +kernel
theorem dX8_refused_22 : decode cX8_refused 22 = .ok (.invokevirtual 84, 3) := by decide +kernel
theorem dX8_refused_25 : decode cX8_refused 25 = .ok (.goto 30, 3) := by decide +kernel
theorem dX8_refused_28 : decode cX8_refused 28 = .ok (.iload_n 2, 1) := by decide +kernel
theorem dX8_refused_29 : decode cX8_refused 29 = .ok (.i2l, 1) := by decide +kernel
theorem dX8_refused_30 : decode cX8_refused 30 = .ok (.lconst 0, 1) := by decide +kernel
theorem dX8_refused_31 : decode cX8_refused 31 = .ok (.aload_n 0, 1) := by decide +kernel
theorem dX8_refused_32 : decode cX8_refused 32 = .ok (.getfield 25, 3) := by decide +kernel
theorem dX8_refused_35 : decode cX8_refused 35 = .ok (.iload_n 1, 1) := by decide +kernel
theorem dX8_refused_36 : decode cX8_refused 36 = .ok (.iaload, 1) := by decide +kernel
theorem dX8_refused_37 : decode cX8_refused 37 = .ok (.iconst 1, 1) := by decide +kernel
theorem dX8_refused_38 : decode cX8_refused 38 = .ok (.isub, 1) := by decide +kernel
theorem dX8_refused_39 : decode cX8_refused 39 = .ok (.i2l, 1) := by decide +kernel
theorem dX8_refused_40 : decode cX8_refused 40 = .ok (.invokestatic 74, 3) := by decide +kernel
theorem dX8_refused_43 : decode cX8_refused 43 = .ok (.ifCond .eq 7, 3) := by decide +kernel
theorem dX8_refused_46 : decode cX8_refused 46 = .ok (.iconst 0, 1) := by decide +kernel
theorem dX8_refused_47 : decode cX8_refused 47 = .ok (.goto 8, 3) := by decide +kernel
theorem dX8_refused_50 : decode cX8_refused 50 = .ok (.aload_n 0, 1) := by decide +kernel
theorem dX8_refused_51 : decode cX8_refused 51 = .ok (.iconst 2, 1) := by decide +kernel
theorem dX8_refused_52 : decode cX8_refused 52 = .ok (.invokevirtual 84, 3) := by decide +kernel
theorem dX8_refused_55 : decode cX8_refused 55 = .ok (.ireturn, 1) := by decide +kernel
theorem dX8_lay_0 : decode cX8_lay 0 = .ok (.aload_n 0, 1) := by decide +kernel
theorem dX8_lay_1 : decode cX8_lay 1 = .ok (.iload_n 1, 1) := by decide +kernel
theorem dX8_lay_2 : decode cX8_lay 2 = .ok (.iload_n 2, 1) := by decide +kernel
theorem dX8_lay_3 : decode cX8_lay 3 = .ok (.invokevirtual 92, 3) := by decide +kernel
theorem dX8_lay_6 : decode cX8_lay 6 = .ok (.istore 4, 2) := by decide +kernel
theorem dX8_lay_8 : decode cX8_lay 8 = .ok (.iload 4, 2) := by decide +kernel
theorem dX8_lay_10 : decode cX8_lay 10 = .ok (.ifCond .eq 6, 3) := by decide +kernel
theorem dX8_lay_13 : decode cX8_lay 13 = .ok (.iload 4, 2) := by decide +kernel
theorem dX8_lay_15 : decode cX8_lay 15 = .ok (.ireturn, 1) := by decide +kernel
theorem dX8_lay_16 : decode cX8_lay 16 = .ok (.aload_n 0, 1) := by decide +kernel
theorem dX8_lay_17 : decode cX8_lay 17 = .ok (.getfield 28, 3) := by decide +kernel
theorem dX8_lay_20 : decode cX8_lay 20 = .ok (.bipush 40, 2) := by decide +kernel
theorem dX8_lay_22 : decode cX8_lay 22 = .ok (.iload_n 1, 1) := by decide +kernel
theorem dX8_lay_23 : decode cX8_lay 23 = .ok (.imul, 1) := by decide +kernel
theorem dX8_lay_24 : decode cX8_lay 24 = .ok (.iload_n 2, 1) := by decide +kernel
theorem dX8_lay_25 : decode cX8_lay 25 = .ok (.iadd, 1) := by decide +kernel
theorem dX8_lay_26 : decode cX8_lay 26 = .ok (.iaload, 1) := by decide +kernel
theorem dX8_lay_27 : decode cX8_lay 27 = .ok (.istore 5, 2) := by decide +kernel
theorem dX8_lay_29 : decode cX8_lay 29 = .ok (.aload_n 0, 1) := by decide +kernel
theorem dX8_lay_30 : decode cX8_lay 30 = .ok (.getfield 28, 3) := by decide +kernel
theorem dX8_lay_33 : decode cX8_lay 33 = .ok (.bipush 40, 2) := by decide +kernel
theorem dX8_lay_35 : decode cX8_lay 35 = .ok (.iload_n 1, 1) := by decide +kernel
theorem dX8_lay_36 : decode cX8_lay 36 = .ok (.imul, 1) := by decide +kernel
theorem dX8_lay_37 : decode cX8_lay 37 = .ok (.iload_n 2, 1) := by decide +kernel
theorem dX8_lay_38 : decode cX8_lay 38 = .ok (.iadd, 1) := by decide +kernel
theorem dX8_lay_39 : decode cX8_lay 39 = .ok (.iload_n 3, 1) := by decide +kernel
theorem dX8_lay_40 : decode cX8_lay 40 = .ok (.iastore, 1) := by decide +kernel
theorem dX8_lay_41 : decode cX8_lay 41 = .ok (.aload_n 0, 1) := by decide +kernel
theorem dX8_lay_42 : decode cX8_lay 42 = .ok (.iload 5, 2) := by decide +kernel
theorem dX8_lay_44 : decode cX8_lay 44 = .ok (.invokevirtual 96, 3) := by decide +kernel
theorem dX8_lay_47 : decode cX8_lay 47 = .ok (.ireturn, 1) := by decide +kernel
theorem dX8_at_0 : decode cX8_at 0 = .ok (.aload_n 0, 1) := by decide +kernel
theorem dX8_at_1 : decode cX8_at 1 = .ok (.iload_n 1, 1) := by decide +kernel
theorem dX8_at_2 : decode cX8_at 2 = .ok (.iload_n 2, 1) := by decide +kernel
theorem dX8_at_3 : decode cX8_at 3 = .ok (.invokevirtual 92, 3) := by decide +kernel
theorem dX8_at_6 : decode cX8_at 6 = .ok (.istore_n 3, 1) := by decide +kernel
theorem dX8_at_7 : decode cX8_at 7 = .ok (.iload_n 3, 1) := by decide +kernel
theorem dX8_at_8 : decode cX8_at 8 = .ok (.ifCond .eq 7, 3) := by decide +kernel
theorem dX8_at_11 : decode cX8_at 11 = .ok (.iload_n 3, 1) := by decide +kernel
theorem dX8_at_12 : decode cX8_at 12 = .ok (.goto 18, 3) := by decide +kernel
theorem dX8_at_15 : decode cX8_at 15 = .ok (.aload_n 0, 1) := by decide +kernel
theorem dX8_at_16 : decode cX8_at 16 = .ok (.aload_n 0, 1) := by decide +kernel
theorem dX8_at_17 : decode cX8_at 17 = .ok (.getfield 28, 3) := by decide +kernel
theorem dX8_at_20 : decode cX8_at 20 = .ok (.bipush 40, 2) := by decide +kernel
theorem dX8_at_22 : decode cX8_at 22 = .ok (.iload_n 1, 1) := by decide +kernel
theorem dX8_at_23 : decode cX8_at 23 = .ok (.imul, 1) := by decide +kernel
theorem dX8_at_24 : decode cX8_at 24 = .ok (.iload_n 2, 1) := by decide +kernel
theorem dX8_at_25 : decode cX8_at 25 = .ok (.iadd, 1) := by decide +kernel
theorem dX8_at_26 : decode cX8_at 26 = .ok (.iaload, 1) := by decide +kernel
theorem dX8_at_27 : decode cX8_at 27 = .ok (.invokevirtual 96, 3) := by decide +kernel
theorem dX8_at_30 : decode cX8_at 30 = .ok (.ireturn, 1) := by decide +kernel
theorem dX8_tear_0 : decode cX8_tear 0 = .ok (.iload_n 1, 1) := by decide +kernel
theorem dX8_tear_1 : decode cX8_tear 1 = .ok (.invokestatic 80, 3) := by decide +kernel
theorem dX8_tear_4 : decode cX8_tear 4 = .ok (.ifCond .ne 5, 3) := by decide +kernel
theorem dX8_tear_7 : decode cX8_tear 7 = .ok (.iconst (-1), 1) := by decide +kernel
theorem dX8_tear_8 : decode cX8_tear 8 = .ok (.ireturn, 1) := by decide +kernel
theorem dX8_tear_9 : decode cX8_tear 9 = .ok (.aload_n 0, 1) := by decide +kernel
theorem dX8_tear_10 : decode cX8_tear 10 = .ok (.getfield 25, 3) := by decide +kernel
theorem dX8_tear_13 : decode cX8_tear 13 = .ok (.iload_n 1, 1) := by decide +kernel
theorem dX8_tear_14 : decode cX8_tear 14 = .ok (.iaload, 1) := by decide +kernel
theorem dX8_tear_15 : decode cX8_tear 15 = .ok (.ifCond .ge 9, 3) := by decide +kernel
theorem dX8_tear_18 : decode cX8_tear 18 = .ok (.aload_n 0, 1) := by decide +kernel
theorem dX8_tear_19 : decode cX8_tear 19 = .ok (.iconst 1, 1) := by decide +kernel
theorem dX8_tear_20 : decode cX8_tear 20 = .ok (.invokevirtual 84, 3) := by decide +kernel
theorem dX8_tear_23 : decode cX8_tear 23 = .ok (.ireturn, 1) := by decide +kernel
theorem dX8_tear_24 : decode cX8_tear 24 = .ok (.aload_n 0, 1) := by decide +kernel
theorem dX8_tear_25 : decode cX8_tear 25 = .ok (.getfield 25, 3) := by decide +kernel
theorem dX8_tear_28 : decode cX8_tear 28 = .ok (.iload_n 1, 1) := by decide +kernel
theorem dX8_tear_29 : decode cX8_tear 29 = .ok (.iconst (-1), 1) := by decide +kernel
theorem dX8_tear_30 : decode cX8_tear 30 = .ok (.iastore, 1) := by decide +kernel
theorem dX8_tear_31 : decode cX8_tear 31 = .ok (.iconst 1, 1) := by decide +kernel
theorem dX8_tear_32 : decode cX8_tear 32 = .ok (.ireturn, 1) := by decide +kernel
theorem dX8_isSpan_0 : decode cX8_isSpan 0 = .ok (.iload_n 2, 1) := by decide +kernel
theorem dX8_isSpan_1 : decode cX8_isSpan 1 = .ok (.ifCond .lt 23, 3) := by decide +kernel
theorem dX8_isSpan_4 : decode cX8_isSpan 4 = .ok (.iload_n 2, 1) := by decide +kernel
theorem dX8_isSpan_5 : decode cX8_isSpan 5 = .ok (.i2l, 1) := by decide +kernel
theorem dX8_isSpan_6 : decode cX8_isSpan 6 = .ok (.iload_n 3, 1) := by decide +kernel
theorem dX8_isSpan_7 : decode cX8_isSpan 7 = .ok (.i2l, 1) := by decide +kernel
theorem dX8_isSpan_8 : decode cX8_isSpan 8 = .ok (.ladd, 1) := by decide +kernel
theorem dX8_isSpan_9 : decode cX8_isSpan 9 = .ok (.aload_n 0, 1) := by decide +kernel
theorem dX8_isSpan_10 : decode cX8_isSpan 10 = .ok (.getfield 25, 3) := by decide +kernel
theorem dX8_isSpan_13 : decode cX8_isSpan 13 = .ok (.iload_n 1, 1) := by decide +kernel
theorem dX8_isSpan_14 : decode cX8_isSpan 14 = .ok (.iaload, 1) := by decide +kernel
theorem dX8_isSpan_15 : decode cX8_isSpan 15 = .ok (.i2l, 1) := by decide +kernel
theorem dX8_isSpan_16 : decode cX8_isSpan 16 = .ok (.lcmp, 1) := by decide +kernel
theorem dX8_isSpan_17 : decode cX8_isSpan 17 = .ok (.ifCond .gt 7, 3) := by decide +kernel
theorem dX8_isSpan_20 : decode cX8_isSpan 20 = .ok (.iconst 1, 1) := by decide +kernel
theorem dX8_isSpan_21 : decode cX8_isSpan 21 = .ok (.goto 4, 3) := by decide +kernel
theorem dX8_isSpan_24 : decode cX8_isSpan 24 = .ok (.iconst 0, 1) := by decide +kernel
theorem dX8_isSpan_25 : decode cX8_isSpan 25 = .ok (.ireturn, 1) := by decide +kernel
theorem dX8_copy_0 : decode cX8_copy 0 = .ok (.iload_n 1, 1) := by decide +kernel
theorem dX8_copy_1 : decode cX8_copy 1 = .ok (.invokestatic 80, 3) := by decide +kernel
theorem dX8_copy_4 : decode cX8_copy 4 = .ok (.ifCond .eq 10, 3) := by decide +kernel
theorem dX8_copy_7 : decode cX8_copy 7 = .ok (.iload_n 3, 1) := by decide +kernel
theorem dX8_copy_8 : decode cX8_copy 8 = .ok (.invokestatic 80, 3) := by decide +kernel
theorem dX8_copy_11 : decode cX8_copy 11 = .ok (.ifCond .ne 5, 3) := by decide +kernel
theorem dX8_copy_14 : decode cX8_copy 14 = .ok (.iconst (-1), 1) := by decide +kernel
theorem dX8_copy_15 : decode cX8_copy 15 = .ok (.ireturn, 1) := by decide +kernel
theorem dX8_copy_16 : decode cX8_copy 16 = .ok (.iload 5, 2) := by decide +kernel
theorem dX8_copy_18 : decode cX8_copy 18 = .ok (.ifCond .ge 9, 3) := by decide +kernel
theorem dX8_copy_21 : decode cX8_copy 21 = .ok (.aload_n 0, 1) := by decide +kernel
theorem dX8_copy_22 : decode cX8_copy 22 = .ok (.iconst 5, 1) := by decide +kernel
theorem dX8_copy_23 : decode cX8_copy 23 = .ok (.invokevirtual 84, 3) := by decide +kernel
theorem dX8_copy_26 : decode cX8_copy 26 = .ok (.ireturn, 1) := by decide +kernel
theorem dX8_copy_27 : decode cX8_copy 27 = .ok (.aload_n 0, 1) := by decide +kernel
theorem dX8_copy_28 : decode cX8_copy 28 = .ok (.getfield 25, 3) := by decide +kernel
theorem dX8_copy_31 : decode cX8_copy 31 = .ok (.iload_n 1, 1) := by decide +kernel
theorem dX8_copy_32 : decode cX8_copy 32 = .ok (.iaload, 1) := by decide +kernel
theorem dX8_copy_33 : decode cX8_copy 33 = .ok (.ifCond .lt 12, 3) := by decide +kernel
theorem dX8_copy_36 : decode cX8_copy 36 = .ok (.aload_n 0, 1) := by decide +kernel
theorem dX8_copy_37 : decode cX8_copy 37 = .ok (.getfield 25, 3) := by decide +kernel
theorem dX8_copy_40 : decode cX8_copy 40 = .ok (.iload_n 3, 1) := by decide +kernel
theorem dX8_copy_41 : decode cX8_copy 41 = .ok (.iaload, 1) := by decide +kernel
theorem dX8_copy_42 : decode cX8_copy 42 = .ok (.ifCond .ge 9, 3) := by decide +kernel
theorem dX8_copy_45 : decode cX8_copy 45 = .ok (.aload_n 0, 1) := by decide +kernel
theorem dX8_copy_46 : decode cX8_copy 46 = .ok (.iconst 1, 1) := by decide +kernel
theorem dX8_copy_47 : decode cX8_copy 47 = .ok (.invokevirtual 84, 3) := by decide +kernel
theorem dX8_copy_50 : decode cX8_copy 50 = .ok (.ireturn, 1) := by decide +kernel
theorem dX8_copy_51 : decode cX8_copy 51 = .ok (.aload_n 0, 1) := by decide +kernel
theorem dX8_copy_52 : decode cX8_copy 52 = .ok (.iload_n 1, 1) := by decide +kernel
theorem dX8_copy_53 : decode cX8_copy 53 = .ok (.iload_n 2, 1) := by decide +kernel
theorem dX8_copy_54 : decode cX8_copy 54 = .ok (.iload 5, 2) := by decide +kernel
theorem dX8_copy_56 : decode cX8_copy 56 = .ok (.invokevirtual 99, 3) := by decide +kernel
theorem dX8_copy_59 : decode cX8_copy 59 = .ok (.ifCond .eq 15, 3) := by decide +kernel
theorem dX8_copy_62 : decode cX8_copy 62 = .ok (.aload_n 0, 1) := by decide +kernel
theorem dX8_copy_63 : decode cX8_copy 63 = .ok (.iload_n 3, 1) := by decide +kernel
theorem dX8_copy_64 : decode cX8_copy 64 = .ok (.iload 4, 2) := by decide +kernel
theorem dX8_copy_66 : decode cX8_copy 66 = .ok (.iload 5, 2) := by decide +kernel
theorem dX8_copy_68 : decode cX8_copy 68 = .ok (.invokevirtual 99, 3) := by decide +kernel
theorem dX8_copy_71 : decode cX8_copy 71 = .ok (.ifCond .ne 9, 3) := by decide +kernel
theorem dX8_copy_74 : decode cX8_copy 74 = .ok (.aload_n 0, 1) := by decide +kernel
theorem dX8_copy_75 : decode cX8_copy 75 = .ok (.iconst 2, 1) := by decide +kernel
theorem dX8_copy_76 : decode cX8_copy 76 = .ok (.invokevirtual 84, 3) := by decide +kernel
theorem dX8_copy_79 : decode cX8_copy 79 = .ok (.ireturn, 1) := by decide +kernel
theorem dX8_copy_80 : decode cX8_copy 80 = .ok (.iload_n 2, 1) := by decide +kernel
theorem dX8_copy_81 : decode cX8_copy 81 = .ok (.iload 4, 2) := by decide +kernel
theorem dX8_copy_83 : decode cX8_copy 83 = .ok (.if_icmp .ge 7, 3) := by decide +kernel
theorem dX8_copy_86 : decode cX8_copy 86 = .ok (.iconst 1, 1) := by decide +kernel
theorem dX8_copy_87 : decode cX8_copy 87 = .ok (.goto 4, 3) := by decide +kernel
theorem dX8_copy_90 : decode cX8_copy 90 = .ok (.iconst 0, 1) := by decide +kernel
theorem dX8_copy_91 : decode cX8_copy 91 = .ok (.istore 6, 2) := by decide +kernel
theorem dX8_copy_93 : decode cX8_copy 93 = .ok (.iconst 0, 1) := by decide +kernel
theorem dX8_copy_94 : decode cX8_copy 94 = .ok (.istore 7, 2) := by decide +kernel
theorem dX8_copy_96 : decode cX8_copy 96 = .ok (.iload 7, 2) := by decide +kernel
theorem dX8_copy_98 : decode cX8_copy 98 = .ok (.iload 5, 2) := by decide +kernel
theorem dX8_copy_100 : decode cX8_copy 100 = .ok (.if_icmp .ge 57, 3) := by decide +kernel
theorem dX8_copy_103 : decode cX8_copy 103 = .ok (.iload 6, 2) := by decide +kernel
theorem dX8_copy_105 : decode cX8_copy 105 = .ok (.ifCond .eq 13, 3) := by decide +kernel
theorem dX8_copy_108 : decode cX8_copy 108 = .ok (.iload 5, 2) := by decide +kernel
theorem dX8_copy_110 : decode cX8_copy 110 = .ok (.iconst 1, 1) := by decide +kernel
theorem dX8_copy_111 : decode cX8_copy 111 = .ok (.isub, 1) := by decide +kernel
theorem dX8_copy_112 : decode cX8_copy 112 = .ok (.iload 7, 2) := by decide +kernel
theorem dX8_copy_114 : decode cX8_copy 114 = .ok (.isub, 1) := by decide +kernel
theorem dX8_copy_115 : decode cX8_copy 115 = .ok (.goto 5, 3) := by decide +kernel
theorem dX8_copy_118 : decode cX8_copy 118 = .ok (.iload 7, 2) := by decide +kernel
theorem dX8_copy_120 : decode cX8_copy 120 = .ok (.istore 8, 2) := by decide +kernel
theorem dX8_copy_122 : decode cX8_copy 122 = .ok (.aload_n 0, 1) := by decide +kernel
theorem dX8_copy_123 : decode cX8_copy 123 = .ok (.getfield 28, 3) := by decide +kernel
theorem dX8_copy_126 : decode cX8_copy 126 = .ok (.bipush 40, 2) := by decide +kernel
theorem dX8_copy_128 : decode cX8_copy 128 = .ok (.iload_n 3, 1) := by decide +kernel
theorem dX8_copy_129 : decode cX8_copy 129 = .ok (.imul, 1) := by decide +kernel
theorem dX8_copy_130 : decode cX8_copy 130 = .ok (.iload 4, 2) := by decide +kernel
theorem dX8_copy_132 : decode cX8_copy 132 = .ok (.iadd, 1) := by decide +kernel
theorem dX8_copy_133 : decode cX8_copy 133 = .ok (.iload 8, 2) := by decide +kernel
theorem dX8_copy_135 : decode cX8_copy 135 = .ok (.iadd, 1) := by decide +kernel
theorem dX8_copy_136 : decode cX8_copy 136 = .ok (.aload_n 0, 1) := by decide +kernel
theorem dX8_copy_137 : decode cX8_copy 137 = .ok (.getfield 28, 3) := by decide +kernel
theorem dX8_copy_140 : decode cX8_copy 140 = .ok (.bipush 40, 2) := by decide +kernel
theorem dX8_copy_142 : decode cX8_copy 142 = .ok (.iload_n 1, 1) := by decide +kernel
theorem dX8_copy_143 : decode cX8_copy 143 = .ok (.imul, 1) := by decide +kernel
theorem dX8_copy_144 : decode cX8_copy 144 = .ok (.iload_n 2, 1) := by decide +kernel
theorem dX8_copy_145 : decode cX8_copy 145 = .ok (.iadd, 1) := by decide +kernel
theorem dX8_copy_146 : decode cX8_copy 146 = .ok (.iload 8, 2) := by decide +kernel
theorem dX8_copy_148 : decode cX8_copy 148 = .ok (.iadd, 1) := by decide +kernel
theorem dX8_copy_149 : decode cX8_copy 149 = .ok (.iaload, 1) := by decide +kernel
theorem dX8_copy_150 : decode cX8_copy 150 = .ok (.iastore, 1) := by decide +kernel
theorem dX8_copy_151 : decode cX8_copy 151 = .ok (.iinc 7 1, 3) := by decide +kernel
theorem dX8_copy_154 : decode cX8_copy 154 = .ok (.goto (-58), 3) := by decide +kernel
theorem dX8_copy_157 : decode cX8_copy 157 = .ok (.iconst 1, 1) := by decide +kernel
theorem dX8_copy_158 : decode cX8_copy 158 = .ok (.ireturn, 1) := by decide +kernel
theorem dX8_mean_0 : decode cX8_mean 0 = .ok (.iload_n 1, 1) := by decide +kernel
theorem dX8_mean_1 : decode cX8_mean 1 = .ok (.invokestatic 80, 3) := by decide +kernel
theorem dX8_mean_4 : decode cX8_mean 4 = .ok (.ifCond .ne 5, 3) := by decide +kernel
theorem dX8_mean_7 : decode cX8_mean 7 = .ok (.iconst (-1), 1) := by decide +kernel
theorem dX8_mean_8 : decode cX8_mean 8 = .ok (.ireturn, 1) := by decide +kernel
theorem dX8_mean_9 : decode cX8_mean 9 = .ok (.aload_n 0, 1) := by decide +kernel
theorem dX8_mean_10 : decode cX8_mean 10 = .ok (.getfield 25, 3) := by decide +kernel
theorem dX8_mean_13 : decode cX8_mean 13 = .ok (.iload_n 1, 1) := by decide +kernel
theorem dX8_mean_14 : decode cX8_mean 14 = .ok (.iaload, 1) := by decide +kernel
theorem dX8_mean_15 : decode cX8_mean 15 = .ok (.ifCond .ge 9, 3) := by decide +kernel
theorem dX8_mean_18 : decode cX8_mean 18 = .ok (.aload_n 0, 1) := by decide +kernel
theorem dX8_mean_19 : decode cX8_mean 19 = .ok (.iconst 1, 1) := by decide +kernel
theorem dX8_mean_20 : decode cX8_mean 20 = .ok (.invokevirtual 84, 3) := by decide +kernel
theorem dX8_mean_23 : decode cX8_mean 23 = .ok (.ireturn, 1) := by decide +kernel
theorem dX8_mean_24 : decode cX8_mean 24 = .ok (.aload_n 0, 1) := by decide +kernel
theorem dX8_mean_25 : decode cX8_mean 25 = .ok (.getfield 25, 3) := by decide +kernel
theorem dX8_mean_28 : decode cX8_mean 28 = .ok (.iload_n 1, 1) := by decide +kernel
theorem dX8_mean_29 : decode cX8_mean 29 = .ok (.iaload, 1) := by decide +kernel
theorem dX8_mean_30 : decode cX8_mean 30 = .ok (.ifCond .ne 9, 3) := by decide +kernel
theorem dX8_mean_33 : decode cX8_mean 33 = .ok (.aload_n 0, 1) := by decide +kernel
theorem dX8_mean_34 : decode cX8_mean 34 = .ok (.iconst 4, 1) := by decide +kernel
theorem dX8_mean_35 : decode cX8_mean 35 = .ok (.invokevirtual 84, 3) := by decide +kernel
theorem dX8_mean_38 : decode cX8_mean 38 = .ok (.ireturn, 1) := by decide +kernel
theorem dX8_mean_39 : decode cX8_mean 39 = .ok (.lconst 0, 1) := by decide +kernel
theorem dX8_mean_40 : decode cX8_mean 40 = .ok (.lstore_n 2, 1) := by decide +kernel
theorem dX8_mean_41 : decode cX8_mean 41 = .ok (.iconst 0, 1) := by decide +kernel
theorem dX8_mean_42 : decode cX8_mean 42 = .ok (.istore 4, 2) := by decide +kernel
theorem dX8_mean_44 : decode cX8_mean 44 = .ok (.iload 4, 2) := by decide +kernel
theorem dX8_mean_46 : decode cX8_mean 46 = .ok (.aload_n 0, 1) := by decide +kernel
theorem dX8_mean_47 : decode cX8_mean 47 = .ok (.getfield 25, 3) := by decide +kernel
theorem dX8_mean_50 : decode cX8_mean 50 = .ok (.iload_n 1, 1) := by decide +kernel
theorem dX8_mean_51 : decode cX8_mean 51 = .ok (.iaload, 1) := by decide +kernel
theorem dX8_mean_52 : decode cX8_mean 52 = .ok (.if_icmp .ge 25, 3) := by decide +kernel
theorem dX8_mean_55 : decode cX8_mean 55 = .ok (.lload_n 2, 1) := by decide +kernel
theorem dX8_mean_56 : decode cX8_mean 56 = .ok (.aload_n 0, 1) := by decide +kernel
theorem dX8_mean_57 : decode cX8_mean 57 = .ok (.getfield 28, 3) := by decide +kernel
theorem dX8_mean_60 : decode cX8_mean 60 = .ok (.bipush 40, 2) := by decide +kernel
theorem dX8_mean_62 : decode cX8_mean 62 = .ok (.iload_n 1, 1) := by decide +kernel
theorem dX8_mean_63 : decode cX8_mean 63 = .ok (.imul, 1) := by decide +kernel
theorem dX8_mean_64 : decode cX8_mean 64 = .ok (.iload 4, 2) := by decide +kernel
theorem dX8_mean_66 : decode cX8_mean 66 = .ok (.iadd, 1) := by decide +kernel
theorem dX8_mean_67 : decode cX8_mean 67 = .ok (.iaload, 1) := by decide +kernel
theorem dX8_mean_68 : decode cX8_mean 68 = .ok (.i2l, 1) := by decide +kernel
theorem dX8_mean_69 : decode cX8_mean 69 = .ok (.ladd, 1) := by decide +kernel
theorem dX8_mean_70 : decode cX8_mean 70 = .ok (.lstore_n 2, 1) := by decide +kernel
end
section
theorem dX8_mean_71 : decode cX8_mean 71 = .ok (.iinc 4 1, 3) := by decide +kernel
theorem dX8_mean_74 : decode cX8_mean 74 = .ok (.goto (-30), 3) := by decide +kernel
theorem dX8_mean_77 : decode cX8_mean 77 = .ok (.aload_n 0, 1) := by decide +kernel
theorem dX8_mean_78 : decode cX8_mean 78 = .ok (.lload_n 2, 1) := by decide +kernel
theorem dX8_mean_79 : decode cX8_mean 79 = .ok (.aload_n 0, 1) := by decide +kernel
theorem dX8_mean_80 : decode cX8_mean 80 = .ok (.getfield 25, 3) := by decide +kernel
theorem dX8_mean_83 : decode cX8_mean 83 = .ok (.iload_n 1, 1) := by decide +kernel
theorem dX8_mean_84 : decode cX8_mean 84 = .ok (.iaload, 1) := by decide +kernel
theorem dX8_mean_85 : decode cX8_mean 85 = .ok (.i2l, 1) := by decide +kernel
theorem dX8_mean_86 : decode cX8_mean 86 = .ok (.ldiv, 1) := by decide +kernel
theorem dX8_mean_87 : decode cX8_mean 87 = .ok (.l2i, 1) := by decide +kernel
theorem dX8_mean_88 : decode cX8_mean 88 = .ok (.invokevirtual 96, 3) := by decide +kernel
theorem dX8_mean_91 : decode cX8_mean 91 = .ok (.ireturn, 1) := by decide +kernel
theorem dX8_text_0 : decode cX8_text 0 = .ok (.iload_n 1, 1) := by decide +kernel
theorem dX8_text_1 : decode cX8_text 1 = .ok (.invokestatic 103, 3) := by decide +kernel
theorem dX8_text_4 : decode cX8_text 4 = .ok (.ifCond .eq 9, 3) := by decide +kernel
theorem dX8_text_7 : decode cX8_text 7 = .ok (.iload_n 2, 1) := by decide +kernel
theorem dX8_text_8 : decode cX8_text 8 = .ok (.bipush 60, 2) := by decide +kernel
theorem dX8_text_10 : decode cX8_text 10 = .ok (.if_icmp .le 5, 3) := by decide +kernel
theorem dX8_text_13 : decode cX8_text 13 = .ok (.iconst (-1), 1) := by decide +kernel
theorem dX8_text_14 : decode cX8_text 14 = .ok (.ireturn, 1) := by decide +kernel
theorem dX8_text_15 : decode cX8_text 15 = .ok (.iload_n 2, 1) := by decide +kernel
theorem dX8_text_16 : decode cX8_text 16 = .ok (.ifCond .ge 9, 3) := by decide +kernel
theorem dX8_text_19 : decode cX8_text 19 = .ok (.aload_n 0, 1) := by decide +kernel
theorem dX8_text_20 : decode cX8_text 20 = .ok (.iconst 5, 1) := by decide +kernel
theorem dX8_text_21 : decode cX8_text 21 = .ok (.invokevirtual 84, 3) := by decide +kernel
theorem dX8_text_24 : decode cX8_text 24 = .ok (.ireturn, 1) := by decide +kernel
theorem dX8_text_25 : decode cX8_text 25 = .ok (.aload_n 0, 1) := by decide +kernel
theorem dX8_text_26 : decode cX8_text 26 = .ok (.getfield 31, 3) := by decide +kernel
theorem dX8_text_29 : decode cX8_text 29 = .ok (.iload_n 1, 1) := by decide +kernel
theorem dX8_text_30 : decode cX8_text 30 = .ok (.iload_n 2, 1) := by decide +kernel
theorem dX8_text_31 : decode cX8_text 31 = .ok (.iastore, 1) := by decide +kernel
theorem dX8_text_32 : decode cX8_text 32 = .ok (.iconst 0, 1) := by decide +kernel
theorem dX8_text_33 : decode cX8_text 33 = .ok (.istore_n 3, 1) := by decide +kernel
theorem dX8_text_34 : decode cX8_text 34 = .ok (.iload_n 3, 1) := by decide +kernel
theorem dX8_text_35 : decode cX8_text 35 = .ok (.bipush 60, 2) := by decide +kernel
theorem dX8_text_37 : decode cX8_text 37 = .ok (.if_icmp .ge 22, 3) := by decide +kernel
theorem dX8_text_40 : decode cX8_text 40 = .ok (.aload_n 0, 1) := by decide +kernel
theorem dX8_text_41 : decode cX8_text 41 = .ok (.getfield 34, 3) := by decide +kernel
theorem dX8_text_44 : decode cX8_text 44 = .ok (.bipush 60, 2) := by decide +kernel
theorem dX8_text_46 : decode cX8_text 46 = .ok (.iload_n 1, 1) := by decide +kernel
theorem dX8_text_47 : decode cX8_text 47 = .ok (.imul, 1) := by decide +kernel
theorem dX8_text_48 : decode cX8_text 48 = .ok (.iload_n 3, 1) := by decide +kernel
theorem dX8_text_49 : decode cX8_text 49 = .ok (.iadd, 1) := by decide +kernel
theorem dX8_text_50 : decode cX8_text 50 = .ok (.bipush 32, 2) := by decide +kernel
theorem dX8_text_52 : decode cX8_text 52 = .ok (.iastore, 1) := by decide +kernel
theorem dX8_text_53 : decode cX8_text 53 = .ok (.iinc 3 1, 3) := by decide +kernel
theorem dX8_text_56 : decode cX8_text 56 = .ok (.goto (-22), 3) := by decide +kernel
theorem dX8_text_59 : decode cX8_text 59 = .ok (.iload_n 2, 1) := by decide +kernel
theorem dX8_text_60 : decode cX8_text 60 = .ok (.ireturn, 1) := by decide +kernel
theorem dX8_put_0 : decode cX8_put 0 = .ok (.iload_n 1, 1) := by decide +kernel
theorem dX8_put_1 : decode cX8_put 1 = .ok (.invokestatic 103, 3) := by decide +kernel
theorem dX8_put_4 : decode cX8_put 4 = .ok (.ifCond .ne 5, 3) := by decide +kernel
theorem dX8_put_7 : decode cX8_put 7 = .ok (.iconst (-1), 1) := by decide +kernel
theorem dX8_put_8 : decode cX8_put 8 = .ok (.ireturn, 1) := by decide +kernel
theorem dX8_put_9 : decode cX8_put 9 = .ok (.aload_n 0, 1) := by decide +kernel
theorem dX8_put_10 : decode cX8_put 10 = .ok (.getfield 31, 3) := by decide +kernel
theorem dX8_put_13 : decode cX8_put 13 = .ok (.iload_n 1, 1) := by decide +kernel
theorem dX8_put_14 : decode cX8_put 14 = .ok (.iaload, 1) := by decide +kernel
theorem dX8_put_15 : decode cX8_put 15 = .ok (.ifCond .ge 9, 3) := by decide +kernel
theorem dX8_put_18 : decode cX8_put 18 = .ok (.aload_n 0, 1) := by decide +kernel
theorem dX8_put_19 : decode cX8_put 19 = .ok (.iconst 1, 1) := by decide +kernel
theorem dX8_put_20 : decode cX8_put 20 = .ok (.invokevirtual 84, 3) := by decide +kernel
theorem dX8_put_23 : decode cX8_put 23 = .ok (.ireturn, 1) := by decide +kernel
theorem dX8_put_24 : decode cX8_put 24 = .ok (.iload_n 2, 1) := by decide +kernel
theorem dX8_put_25 : decode cX8_put 25 = .ok (.i2l, 1) := by decide +kernel
theorem dX8_put_26 : decode cX8_put 26 = .ok (.lconst 0, 1) := by decide +kernel
theorem dX8_put_27 : decode cX8_put 27 = .ok (.aload_n 0, 1) := by decide +kernel
theorem dX8_put_28 : decode cX8_put 28 = .ok (.getfield 31, 3) := by decide +kernel
theorem dX8_put_31 : decode cX8_put 31 = .ok (.iload_n 1, 1) := by decide +kernel
theorem dX8_put_32 : decode cX8_put 32 = .ok (.iaload, 1) := by decide +kernel
theorem dX8_put_33 : decode cX8_put 33 = .ok (.iconst 1, 1) := by decide +kernel
theorem dX8_put_34 : decode cX8_put 34 = .ok (.isub, 1) := by decide +kernel
theorem dX8_put_35 : decode cX8_put 35 = .ok (.i2l, 1) := by decide +kernel
theorem dX8_put_36 : decode cX8_put 36 = .ok (.invokestatic 74, 3) := by decide +kernel
theorem dX8_put_39 : decode cX8_put 39 = .ok (.ifCond .ne 9, 3) := by decide +kernel
theorem dX8_put_42 : decode cX8_put 42 = .ok (.aload_n 0, 1) := by decide +kernel
theorem dX8_put_43 : decode cX8_put 43 = .ok (.iconst 2, 1) := by decide +kernel
theorem dX8_put_44 : decode cX8_put 44 = .ok (.invokevirtual 84, 3) := by decide +kernel
theorem dX8_put_47 : decode cX8_put 47 = .ok (.ireturn, 1) := by decide +kernel
theorem dX8_put_48 : decode cX8_put 48 = .ok (.aload_n 0, 1) := by decide +kernel
theorem dX8_put_49 : decode cX8_put 49 = .ok (.getfield 34, 3) := by decide +kernel
theorem dX8_put_52 : decode cX8_put 52 = .ok (.bipush 60, 2) := by decide +kernel
theorem dX8_put_54 : decode cX8_put 54 = .ok (.iload_n 1, 1) := by decide +kernel
theorem dX8_put_55 : decode cX8_put 55 = .ok (.imul, 1) := by decide +kernel
theorem dX8_put_56 : decode cX8_put 56 = .ok (.iload_n 2, 1) := by decide +kernel
theorem dX8_put_57 : decode cX8_put 57 = .ok (.iadd, 1) := by decide +kernel
theorem dX8_put_58 : decode cX8_put 58 = .ok (.iaload, 1) := by decide +kernel
theorem dX8_put_59 : decode cX8_put 59 = .ok (.istore 4, 2) := by decide +kernel
theorem dX8_put_61 : decode cX8_put 61 = .ok (.aload_n 0, 1) := by decide +kernel
theorem dX8_put_62 : decode cX8_put 62 = .ok (.getfield 34, 3) := by decide +kernel
theorem dX8_put_65 : decode cX8_put 65 = .ok (.bipush 60, 2) := by decide +kernel
theorem dX8_put_67 : decode cX8_put 67 = .ok (.iload_n 1, 1) := by decide +kernel
theorem dX8_put_68 : decode cX8_put 68 = .ok (.imul, 1) := by decide +kernel
theorem dX8_put_69 : decode cX8_put 69 = .ok (.iload_n 2, 1) := by decide +kernel
theorem dX8_put_70 : decode cX8_put 70 = .ok (.iadd, 1) := by decide +kernel
theorem dX8_put_71 : decode cX8_put 71 = .ok (.iload_n 3, 1) := by decide +kernel
theorem dX8_put_72 : decode cX8_put 72 = .ok (.i2b, 1) := by decide +kernel
theorem dX8_put_73 : decode cX8_put 73 = .ok (.iastore, 1) := by decide +kernel
theorem dX8_put_74 : decode cX8_put 74 = .ok (.iload 4, 2) := by decide +kernel
theorem dX8_put_76 : decode cX8_put 76 = .ok (.sipush 1000, 3) := by decide +kernel
theorem dX8_put_79 : decode cX8_put 79 = .ok (.iadd, 1) := by decide +kernel
theorem dX8_put_80 : decode cX8_put 80 = .ok (.ireturn, 1) := by decide +kernel
theorem dX8_here_0 : decode cX8_here 0 = .ok (.aload_n 0, 1) := by decide +kernel
theorem dX8_here_1 : decode cX8_here 1 = .ok (.getfield 34, 3) := by decide +kernel
theorem dX8_here_4 : decode cX8_here 4 = .ok (.aload_n 0, 1) := by decide +kernel
theorem dX8_here_5 : decode cX8_here 5 = .ok (.getfield 106, 3) := by decide +kernel
theorem dX8_here_8 : decode cX8_here 8 = .ok (.aload_n 0, 1) := by decide +kernel
theorem dX8_here_9 : decode cX8_here 9 = .ok (.getfield 109, 3) := by decide +kernel
theorem dX8_here_12 : decode cX8_here 12 = .ok (.iadd, 1) := by decide +kernel
theorem dX8_here_13 : decode cX8_here 13 = .ok (.iaload, 1) := by decide +kernel
theorem dX8_here_14 : decode cX8_here 14 = .ok (.ireturn, 1) := by decide +kernel
theorem dX8_skip_0 : decode cX8_skip 0 = .ok (.aload_n 0, 1) := by decide +kernel
theorem dX8_skip_1 : decode cX8_skip 1 = .ok (.getfield 109, 3) := by decide +kernel
theorem dX8_skip_4 : decode cX8_skip 4 = .ok (.aload_n 0, 1) := by decide +kernel
theorem dX8_skip_5 : decode cX8_skip 5 = .ok (.getfield 112, 3) := by decide +kernel
theorem dX8_skip_8 : decode cX8_skip 8 = .ok (.if_icmp .ge 25, 3) := by decide +kernel
theorem dX8_skip_11 : decode cX8_skip 11 = .ok (.aload_n 0, 1) := by decide +kernel
theorem dX8_skip_12 : decode cX8_skip 12 = .ok (.invokevirtual 115, 3) := by decide +kernel
theorem dX8_skip_15 : decode cX8_skip 15 = .ok (.bipush 32, 2) := by decide +kernel
theorem dX8_skip_17 : decode cX8_skip 17 = .ok (.if_icmp .ne 16, 3) := by decide +kernel
theorem dX8_skip_20 : decode cX8_skip 20 = .ok (.aload_n 0, 1) := by decide +kernel
theorem dX8_skip_21 : decode cX8_skip 21 = .ok (.dup, 1) := by decide +kernel
theorem dX8_skip_22 : decode cX8_skip 22 = .ok (.getfield 109, 3) := by decide +kernel
theorem dX8_skip_25 : decode cX8_skip 25 = .ok (.iconst 1, 1) := by decide +kernel
theorem dX8_skip_26 : decode cX8_skip 26 = .ok (.iadd, 1) := by decide +kernel
theorem dX8_skip_27 : decode cX8_skip 27 = .ok (.putfield 109, 3) := by decide +kernel
theorem dX8_skip_30 : decode cX8_skip 30 = .ok (.goto (-30), 3) := by decide +kernel
theorem dX8_skip_33 : decode cX8_skip 33 = .ok (.return_, 1) := by decide +kernel
theorem dX8_isFigure_0 : decode cX8_isFigure 0 = .ok (.aload_n 0, 1) := by decide +kernel
theorem dX8_isFigure_1 : decode cX8_isFigure 1 = .ok (.getfield 109, 3) := by decide +kernel
theorem dX8_isFigure_4 : decode cX8_isFigure 4 = .ok (.aload_n 0, 1) := by decide +kernel
theorem dX8_isFigure_5 : decode cX8_isFigure 5 = .ok (.getfield 112, 3) := by decide +kernel
theorem dX8_isFigure_8 : decode cX8_isFigure 8 = .ok (.if_icmp .ge 28, 3) := by decide +kernel
theorem dX8_isFigure_11 : decode cX8_isFigure 11 = .ok (.aload_n 0, 1) := by decide +kernel
theorem dX8_isFigure_12 : decode cX8_isFigure 12 = .ok (.invokevirtual 115, 3) := by decide +kernel
theorem dX8_isFigure_15 : decode cX8_isFigure 15 = .ok (.i2l, 1) := by decide +kernel
theorem dX8_isFigure_16 : decode cX8_isFigure 16 = .ok (.bipush 48, 2) := by decide +kernel
theorem dX8_isFigure_18 : decode cX8_isFigure 18 = .ok (.iload_n 1, 1) := by decide +kernel
theorem dX8_isFigure_19 : decode cX8_isFigure 19 = .ok (.iadd, 1) := by decide +kernel
theorem dX8_isFigure_20 : decode cX8_isFigure 20 = .ok (.i2l, 1) := by decide +kernel
theorem dX8_isFigure_21 : decode cX8_isFigure 21 = .ok (.bipush 48, 2) := by decide +kernel
theorem dX8_isFigure_23 : decode cX8_isFigure 23 = .ok (.iload_n 2, 1) := by decide +kernel
theorem dX8_isFigure_24 : decode cX8_isFigure 24 = .ok (.iadd, 1) := by decide +kernel
theorem dX8_isFigure_25 : decode cX8_isFigure 25 = .ok (.i2l, 1) := by decide +kernel
theorem dX8_isFigure_26 : decode cX8_isFigure 26 = .ok (.invokestatic 74, 3) := by decide +kernel
theorem dX8_isFigure_29 : decode cX8_isFigure 29 = .ok (.ifCond .eq 7, 3) := by decide +kernel
theorem dX8_isFigure_32 : decode cX8_isFigure 32 = .ok (.iconst 1, 1) := by decide +kernel
theorem dX8_isFigure_33 : decode cX8_isFigure 33 = .ok (.goto 4, 3) := by decide +kernel
theorem dX8_isFigure_36 : decode cX8_isFigure 36 = .ok (.iconst 0, 1) := by decide +kernel
theorem dX8_isFigure_37 : decode cX8_isFigure 37 = .ok (.ireturn, 1) := by decide +kernel
theorem dX8_figure_0 : decode cX8_figure 0 = .ok (.aload_n 0, 1) := by decide +kernel
theorem dX8_figure_1 : decode cX8_figure 1 = .ok (.iload_n 1, 1) := by decide +kernel
theorem dX8_figure_2 : decode cX8_figure 2 = .ok (.iload_n 2, 1) := by decide +kernel
theorem dX8_figure_3 : decode cX8_figure 3 = .ok (.invokevirtual 119, 3) := by decide +kernel
theorem dX8_figure_6 : decode cX8_figure 6 = .ok (.ifCond .ne 6, 3) := by decide +kernel
theorem dX8_figure_9 : decode cX8_figure 9 = .ok (.bipush (-9), 2) := by decide +kernel
theorem dX8_figure_11 : decode cX8_figure 11 = .ok (.ireturn, 1) := by decide +kernel
theorem dX8_figure_12 : decode cX8_figure 12 = .ok (.aload_n 0, 1) := by decide +kernel
theorem dX8_figure_13 : decode cX8_figure 13 = .ok (.dup, 1) := by decide +kernel
theorem dX8_figure_14 : decode cX8_figure 14 = .ok (.getfield 109, 3) := by decide +kernel
theorem dX8_figure_17 : decode cX8_figure 17 = .ok (.iconst 1, 1) := by decide +kernel
theorem dX8_figure_18 : decode cX8_figure 18 = .ok (.iadd, 1) := by decide +kernel
theorem dX8_figure_19 : decode cX8_figure 19 = .ok (.putfield 109, 3) := by decide +kernel
theorem dX8_figure_22 : decode cX8_figure 22 = .ok (.aload_n 0, 1) := by decide +kernel
theorem dX8_figure_23 : decode cX8_figure 23 = .ok (.getfield 34, 3) := by decide +kernel
theorem dX8_figure_26 : decode cX8_figure 26 = .ok (.aload_n 0, 1) := by decide +kernel
theorem dX8_figure_27 : decode cX8_figure 27 = .ok (.getfield 106, 3) := by decide +kernel
theorem dX8_figure_30 : decode cX8_figure 30 = .ok (.aload_n 0, 1) := by decide +kernel
theorem dX8_figure_31 : decode cX8_figure 31 = .ok (.getfield 109, 3) := by decide +kernel
theorem dX8_figure_34 : decode cX8_figure 34 = .ok (.iadd, 1) := by decide +kernel
theorem dX8_figure_35 : decode cX8_figure 35 = .ok (.iconst 1, 1) := by decide +kernel
theorem dX8_figure_36 : decode cX8_figure 36 = .ok (.isub, 1) := by decide +kernel
theorem dX8_figure_37 : decode cX8_figure 37 = .ok (.iaload, 1) := by decide +kernel
theorem dX8_figure_38 : decode cX8_figure 38 = .ok (.bipush 48, 2) := by decide +kernel
theorem dX8_figure_40 : decode cX8_figure 40 = .ok (.isub, 1) := by decide +kernel
theorem dX8_figure_41 : decode cX8_figure 41 = .ok (.ireturn, 1) := by decide +kernel
theorem dX8_readsIron_0 : decode cX8_readsIron 0 = .ok (.aload_n 0, 1) := by decide +kernel
theorem dX8_readsIron_1 : decode cX8_readsIron 1 = .ok (.invokevirtual 123, 3) := by decide +kernel
theorem dX8_readsIron_4 : decode cX8_readsIron 4 = .ok (.aload_n 0, 1) := by decide +kernel
theorem dX8_readsIron_5 : decode cX8_readsIron 5 = .ok (.getfield 109, 3) := by decide +kernel
theorem dX8_readsIron_8 : decode cX8_readsIron 8 = .ok (.aload_n 0, 1) := by decide +kernel
theorem dX8_readsIron_9 : decode cX8_readsIron 9 = .ok (.getfield 112, 3) := by decide +kernel
theorem dX8_readsIron_12 : decode cX8_readsIron 12 = .ok (.if_icmp .eq 12, 3) := by decide +kernel
theorem dX8_readsIron_15 : decode cX8_readsIron 15 = .ok (.aload_n 0, 1) := by decide +kernel
theorem dX8_readsIron_16 : decode cX8_readsIron 16 = .ok (.invokevirtual 115, 3) := by decide +kernel
theorem dX8_readsIron_19 : decode cX8_readsIron 19 = .ok (.bipush 105, 2) := by decide +kernel
theorem dX8_readsIron_21 : decode cX8_readsIron 21 = .ok (.if_icmp .eq 5, 3) := by decide +kernel
theorem dX8_readsIron_24 : decode cX8_readsIron 24 = .ok (.iconst 0, 1) := by decide +kernel
theorem dX8_readsIron_25 : decode cX8_readsIron 25 = .ok (.ireturn, 1) := by decide +kernel
theorem dX8_readsIron_26 : decode cX8_readsIron 26 = .ok (.aload_n 0, 1) := by decide +kernel
theorem dX8_readsIron_27 : decode cX8_readsIron 27 = .ok (.dup, 1) := by decide +kernel
theorem dX8_readsIron_28 : decode cX8_readsIron 28 = .ok (.getfield 109, 3) := by decide +kernel
theorem dX8_readsIron_31 : decode cX8_readsIron 31 = .ok (.iconst 1, 1) := by decide +kernel
theorem dX8_readsIron_32 : decode cX8_readsIron 32 = .ok (.iadd, 1) := by decide +kernel
theorem dX8_readsIron_33 : decode cX8_readsIron 33 = .ok (.putfield 109, 3) := by decide +kernel
theorem dX8_readsIron_36 : decode cX8_readsIron 36 = .ok (.iconst 1, 1) := by decide +kernel
theorem dX8_readsIron_37 : decode cX8_readsIron 37 = .ok (.istore_n 1, 1) := by decide +kernel
theorem dX8_readsIron_38 : decode cX8_readsIron 38 = .ok (.iconst 0, 1) := by decide +kernel
theorem dX8_readsIron_39 : decode cX8_readsIron 39 = .ok (.istore_n 2, 1) := by decide +kernel
theorem dX8_readsIron_40 : decode cX8_readsIron 40 = .ok (.iload_n 2, 1) := by decide +kernel
theorem dX8_readsIron_41 : decode cX8_readsIron 41 = .ok (.iconst 4, 1) := by decide +kernel
theorem dX8_readsIron_42 : decode cX8_readsIron 42 = .ok (.if_icmp .ge 71, 3) := by decide +kernel
theorem dX8_readsIron_45 : decode cX8_readsIron 45 = .ok (.iload_n 1, 1) := by decide +kernel
theorem dX8_readsIron_46 : decode cX8_readsIron 46 = .ok (.ifCond .eq 67, 3) := by decide +kernel
theorem dX8_readsIron_49 : decode cX8_readsIron 49 = .ok (.aload_n 0, 1) := by decide +kernel
theorem dX8_readsIron_50 : decode cX8_readsIron 50 = .ok (.getfield 44, 3) := by decide +kernel
theorem dX8_readsIron_53 : decode cX8_readsIron 53 = .ok (.iload_n 2, 1) := by decide +kernel
theorem dX8_readsIron_54 : decode cX8_readsIron 54 = .ok (.iload_n 2, 1) := by decide +kernel
theorem dX8_readsIron_55 : decode cX8_readsIron 55 = .ok (.ifCond .ne 12, 3) := by decide +kernel
theorem dX8_readsIron_58 : decode cX8_readsIron 58 = .ok (.aload_n 0, 1) := by decide +kernel
theorem dX8_readsIron_59 : decode cX8_readsIron 59 = .ok (.iconst 1, 1) := by decide +kernel
theorem dX8_readsIron_60 : decode cX8_readsIron 60 = .ok (.iconst 3, 1) := by decide +kernel
theorem dX8_readsIron_61 : decode cX8_readsIron 61 = .ok (.invokevirtual 126, 3) := by decide +kernel
theorem dX8_readsIron_64 : decode cX8_readsIron 64 = .ok (.goto 25, 3) := by decide +kernel
theorem dX8_readsIron_67 : decode cX8_readsIron 67 = .ok (.iload_n 2, 1) := by decide +kernel
theorem dX8_readsIron_68 : decode cX8_readsIron 68 = .ok (.iconst 3, 1) := by decide +kernel
theorem dX8_readsIron_69 : decode cX8_readsIron 69 = .ok (.if_icmp .ne 13, 3) := by decide +kernel
theorem dX8_readsIron_72 : decode cX8_readsIron 72 = .ok (.aload_n 0, 1) := by decide +kernel
theorem dX8_readsIron_73 : decode cX8_readsIron 73 = .ok (.iconst 1, 1) := by decide +kernel
theorem dX8_readsIron_74 : decode cX8_readsIron 74 = .ok (.bipush 6, 2) := by decide +kernel
theorem dX8_readsIron_76 : decode cX8_readsIron 76 = .ok (.invokevirtual 126, 3) := by decide +kernel
theorem dX8_readsIron_79 : decode cX8_readsIron 79 = .ok (.goto 10, 3) := by decide +kernel
theorem dX8_readsIron_82 : decode cX8_readsIron 82 = .ok (.aload_n 0, 1) := by decide +kernel
theorem dX8_readsIron_83 : decode cX8_readsIron 83 = .ok (.iconst 0, 1) := by decide +kernel
theorem dX8_readsIron_84 : decode cX8_readsIron 84 = .ok (.bipush 9, 2) := by decide +kernel
theorem dX8_readsIron_86 : decode cX8_readsIron 86 = .ok (.invokevirtual 126, 3) := by decide +kernel
theorem dX8_readsIron_89 : decode cX8_readsIron 89 = .ok (.iastore, 1) := by decide +kernel
theorem dX8_readsIron_90 : decode cX8_readsIron 90 = .ok (.aload_n 0, 1) := by decide +kernel
theorem dX8_readsIron_91 : decode cX8_readsIron 91 = .ok (.getfield 44, 3) := by decide +kernel
theorem dX8_readsIron_94 : decode cX8_readsIron 94 = .ok (.iload_n 2, 1) := by decide +kernel
theorem dX8_readsIron_95 : decode cX8_readsIron 95 = .ok (.iaload, 1) := by decide +kernel
theorem dX8_readsIron_96 : decode cX8_readsIron 96 = .ok (.bipush (-9), 2) := by decide +kernel
theorem dX8_readsIron_98 : decode cX8_readsIron 98 = .ok (.if_icmp .eq 7, 3) := by decide +kernel
theorem dX8_readsIron_101 : decode cX8_readsIron 101 = .ok (.iconst 1, 1) := by decide +kernel
theorem dX8_readsIron_102 : decode cX8_readsIron 102 = .ok (.goto 4, 3) := by decide +kernel
theorem dX8_readsIron_105 : decode cX8_readsIron 105 = .ok (.iconst 0, 1) := by decide +kernel
theorem dX8_readsIron_106 : decode cX8_readsIron 106 = .ok (.istore_n 1, 1) := by decide +kernel
theorem dX8_readsIron_107 : decode cX8_readsIron 107 = .ok (.iinc 2 1, 3) := by decide +kernel
theorem dX8_readsIron_110 : decode cX8_readsIron 110 = .ok (.goto (-70), 3) := by decide +kernel
theorem dX8_readsIron_113 : decode cX8_readsIron 113 = .ok (.iload_n 1, 1) := by decide +kernel
theorem dX8_readsIron_114 : decode cX8_readsIron 114 = .ok (.ireturn, 1) := by decide +kernel
theorem dX8_kindOfLetter_0 : decode cX8_kindOfLetter 0 = .ok (.iload_n 0, 1) := by decide +kernel
theorem dX8_kindOfLetter_1 : decode cX8_kindOfLetter 1 = .ok (.bipush 109, 2) := by decide +kernel
theorem dX8_kindOfLetter_3 : decode cX8_kindOfLetter 3 = .ok (.if_icmp .ne 7, 3) := by decide +kernel
theorem dX8_kindOfLetter_6 : decode cX8_kindOfLetter 6 = .ok (.iconst 0, 1) := by decide +kernel
theorem dX8_kindOfLetter_7 : decode cX8_kindOfLetter 7 = .ok (.goto 55, 3) := by decide +kernel
theorem dX8_kindOfLetter_10 : decode cX8_kindOfLetter 10 = .ok (.iload_n 0, 1) := by decide +kernel
theorem dX8_kindOfLetter_11 : decode cX8_kindOfLetter 11 = .ok (.bipush 112, 2) := by decide +kernel
theorem dX8_kindOfLetter_13 : decode cX8_kindOfLetter 13 = .ok (.if_icmp .ne 7, 3) := by decide +kernel
theorem dX8_kindOfLetter_16 : decode cX8_kindOfLetter 16 = .ok (.iconst 1, 1) := by decide +kernel
theorem dX8_kindOfLetter_17 : decode cX8_kindOfLetter 17 = .ok (.goto 45, 3) := by decide +kernel
theorem dX8_kindOfLetter_20 : decode cX8_kindOfLetter 20 = .ok (.iload_n 0, 1) := by decide +kernel
theorem dX8_kindOfLetter_21 : decode cX8_kindOfLetter 21 = .ok (.bipush 99, 2) := by decide +kernel
theorem dX8_kindOfLetter_23 : decode cX8_kindOfLetter 23 = .ok (.if_icmp .ne 7, 3) := by decide +kernel
theorem dX8_kindOfLetter_26 : decode cX8_kindOfLetter 26 = .ok (.iconst 2, 1) := by decide +kernel
theorem dX8_kindOfLetter_27 : decode cX8_kindOfLetter 27 = .ok (.goto 35, 3) := by decide +kernel
theorem dX8_kindOfLetter_30 : decode cX8_kindOfLetter 30 = .ok (.iload_n 0, 1) := by decide +kernel
theorem dX8_kindOfLetter_31 : decode cX8_kindOfLetter 31 = .ok (.bipush 119, 2) := by decide +kernel
theorem dX8_kindOfLetter_33 : decode cX8_kindOfLetter 33 = .ok (.if_icmp .ne 7, 3) := by decide +kernel
theorem dX8_kindOfLetter_36 : decode cX8_kindOfLetter 36 = .ok (.iconst 3, 1) := by decide +kernel
theorem dX8_kindOfLetter_37 : decode cX8_kindOfLetter 37 = .ok (.goto 25, 3) := by decide +kernel
theorem dX8_kindOfLetter_40 : decode cX8_kindOfLetter 40 = .ok (.iload_n 0, 1) := by decide +kernel
theorem dX8_kindOfLetter_41 : decode cX8_kindOfLetter 41 = .ok (.bipush 120, 2) := by decide +kernel
theorem dX8_kindOfLetter_43 : decode cX8_kindOfLetter 43 = .ok (.if_icmp .ne 7, 3) := by decide +kernel
theorem dX8_kindOfLetter_46 : decode cX8_kindOfLetter 46 = .ok (.iconst 4, 1) := by decide +kernel
theorem dX8_kindOfLetter_47 : decode cX8_kindOfLetter 47 = .ok (.goto 15, 3) := by decide +kernel
theorem dX8_kindOfLetter_50 : decode cX8_kindOfLetter 50 = .ok (.iload_n 0, 1) := by decide +kernel
theorem dX8_kindOfLetter_51 : decode cX8_kindOfLetter 51 = .ok (.bipush 110, 2) := by decide +kernel
theorem dX8_kindOfLetter_53 : decode cX8_kindOfLetter 53 = .ok (.if_icmp .ne 7, 3) := by decide +kernel
theorem dX8_kindOfLetter_56 : decode cX8_kindOfLetter 56 = .ok (.iconst 5, 1) := by decide +kernel
theorem dX8_kindOfLetter_57 : decode cX8_kindOfLetter 57 = .ok (.goto 5, 3) := by decide +kernel
theorem dX8_kindOfLetter_60 : decode cX8_kindOfLetter 60 = .ok (.bipush (-9), 2) := by decide +kernel
theorem dX8_kindOfLetter_62 : decode cX8_kindOfLetter 62 = .ok (.ireturn, 1) := by decide +kernel
theorem dX8_readsMan_0 : decode cX8_readsMan 0 = .ok (.iconst 4, 1) := by decide +kernel
theorem dX8_readsMan_1 : decode cX8_readsMan 1 = .ok (.aload_n 0, 1) := by decide +kernel
theorem dX8_readsMan_2 : decode cX8_readsMan 2 = .ok (.getfield 129, 3) := by decide +kernel
theorem dX8_readsMan_5 : decode cX8_readsMan 5 = .ok (.imul, 1) := by decide +kernel
theorem dX8_readsMan_6 : decode cX8_readsMan 6 = .ok (.istore_n 1, 1) := by decide +kernel
theorem dX8_readsMan_7 : decode cX8_readsMan 7 = .ok (.aload_n 0, 1) := by decide +kernel
theorem dX8_readsMan_8 : decode cX8_readsMan 8 = .ok (.invokevirtual 115, 3) := by decide +kernel
theorem dX8_readsMan_11 : decode cX8_readsMan 11 = .ok (.invokestatic 132, 3) := by decide +kernel
theorem dX8_readsMan_14 : decode cX8_readsMan 14 = .ok (.istore_n 2, 1) := by decide +kernel
theorem dX8_readsMan_15 : decode cX8_readsMan 15 = .ok (.iload_n 2, 1) := by decide +kernel
theorem dX8_readsMan_16 : decode cX8_readsMan 16 = .ok (.bipush (-9), 2) := by decide +kernel
theorem dX8_readsMan_18 : decode cX8_readsMan 18 = .ok (.if_icmp .eq 12, 3) := by decide +kernel
theorem dX8_readsMan_21 : decode cX8_readsMan 21 = .ok (.aload_n 0, 1) := by decide +kernel
theorem dX8_readsMan_22 : decode cX8_readsMan 22 = .ok (.getfield 129, 3) := by decide +kernel
theorem dX8_readsMan_25 : decode cX8_readsMan 25 = .ok (.bipush 6, 2) := by decide +kernel
theorem dX8_readsMan_27 : decode cX8_readsMan 27 = .ok (.if_icmp .ne 5, 3) := by decide +kernel
theorem dX8_readsMan_30 : decode cX8_readsMan 30 = .ok (.iconst 0, 1) := by decide +kernel
theorem dX8_readsMan_31 : decode cX8_readsMan 31 = .ok (.ireturn, 1) := by decide +kernel
theorem dX8_readsMan_32 : decode cX8_readsMan 32 = .ok (.aload_n 0, 1) := by decide +kernel
theorem dX8_readsMan_33 : decode cX8_readsMan 33 = .ok (.dup, 1) := by decide +kernel
theorem dX8_readsMan_34 : decode cX8_readsMan 34 = .ok (.getfield 109, 3) := by decide +kernel
theorem dX8_readsMan_37 : decode cX8_readsMan 37 = .ok (.iconst 1, 1) := by decide +kernel
theorem dX8_readsMan_38 : decode cX8_readsMan 38 = .ok (.iadd, 1) := by decide +kernel
theorem dX8_readsMan_39 : decode cX8_readsMan 39 = .ok (.putfield 109, 3) := by decide +kernel
theorem dX8_readsMan_42 : decode cX8_readsMan 42 = .ok (.aload_n 0, 1) := by decide +kernel
theorem dX8_readsMan_43 : decode cX8_readsMan 43 = .ok (.getfield 47, 3) := by decide +kernel
theorem dX8_readsMan_46 : decode cX8_readsMan 46 = .ok (.iload_n 1, 1) := by decide +kernel
theorem dX8_readsMan_47 : decode cX8_readsMan 47 = .ok (.iload_n 2, 1) := by decide +kernel
theorem dX8_readsMan_48 : decode cX8_readsMan 48 = .ok (.iastore, 1) := by decide +kernel
theorem dX8_readsMan_49 : decode cX8_readsMan 49 = .ok (.iconst 1, 1) := by decide +kernel
theorem dX8_readsMan_50 : decode cX8_readsMan 50 = .ok (.istore_n 3, 1) := by decide +kernel
theorem dX8_readsMan_51 : decode cX8_readsMan 51 = .ok (.iconst 1, 1) := by decide +kernel
theorem dX8_readsMan_52 : decode cX8_readsMan 52 = .ok (.istore 4, 2) := by decide +kernel
theorem dX8_readsMan_54 : decode cX8_readsMan 54 = .ok (.iload 4, 2) := by decide +kernel
theorem dX8_readsMan_56 : decode cX8_readsMan 56 = .ok (.iconst 4, 1) := by decide +kernel
theorem dX8_readsMan_57 : decode cX8_readsMan 57 = .ok (.if_icmp .ge 59, 3) := by decide +kernel
theorem dX8_readsMan_60 : decode cX8_readsMan 60 = .ok (.iload_n 3, 1) := by decide +kernel
theorem dX8_readsMan_61 : decode cX8_readsMan 61 = .ok (.ifCond .eq 55, 3) := by decide +kernel
theorem dX8_readsMan_64 : decode cX8_readsMan 64 = .ok (.aload_n 0, 1) := by decide +kernel
theorem dX8_readsMan_65 : decode cX8_readsMan 65 = .ok (.getfield 47, 3) := by decide +kernel
theorem dX8_readsMan_68 : decode cX8_readsMan 68 = .ok (.iload_n 1, 1) := by decide +kernel
theorem dX8_readsMan_69 : decode cX8_readsMan 69 = .ok (.iload 4, 2) := by decide +kernel
theorem dX8_readsMan_71 : decode cX8_readsMan 71 = .ok (.iadd, 1) := by decide +kernel
theorem dX8_readsMan_72 : decode cX8_readsMan 72 = .ok (.aload_n 0, 1) := by decide +kernel
theorem dX8_readsMan_73 : decode cX8_readsMan 73 = .ok (.iconst 0, 1) := by decide +kernel
theorem dX8_readsMan_74 : decode cX8_readsMan 74 = .ok (.iload 4, 2) := by decide +kernel
theorem dX8_readsMan_76 : decode cX8_readsMan 76 = .ok (.iconst 1, 1) := by decide +kernel
theorem dX8_readsMan_77 : decode cX8_readsMan 77 = .ok (.if_icmp .ne 7, 3) := by decide +kernel
theorem dX8_readsMan_80 : decode cX8_readsMan 80 = .ok (.iconst 1, 1) := by decide +kernel
theorem dX8_readsMan_81 : decode cX8_readsMan 81 = .ok (.goto 5, 3) := by decide +kernel
theorem dX8_readsMan_84 : decode cX8_readsMan 84 = .ok (.bipush 9, 2) := by decide +kernel
theorem dX8_readsMan_86 : decode cX8_readsMan 86 = .ok (.invokevirtual 126, 3) := by decide +kernel
theorem dX8_readsMan_89 : decode cX8_readsMan 89 = .ok (.iastore, 1) := by decide +kernel
theorem dX8_readsMan_90 : decode cX8_readsMan 90 = .ok (.aload_n 0, 1) := by decide +kernel
theorem dX8_readsMan_91 : decode cX8_readsMan 91 = .ok (.getfield 47, 3) := by decide +kernel
theorem dX8_readsMan_94 : decode cX8_readsMan 94 = .ok (.iload_n 1, 1) := by decide +kernel
theorem dX8_readsMan_95 : decode cX8_readsMan 95 = .ok (.iload 4, 2) := by decide +kernel
theorem dX8_readsMan_97 : decode cX8_readsMan 97 = .ok (.iadd, 1) := by decide +kernel
theorem dX8_readsMan_98 : decode cX8_readsMan 98 = .ok (.iaload, 1) := by decide +kernel
theorem dX8_readsMan_99 : decode cX8_readsMan 99 = .ok (.bipush (-9), 2) := by decide +kernel
theorem dX8_readsMan_101 : decode cX8_readsMan 101 = .ok (.if_icmp .eq 7, 3) := by decide +kernel
theorem dX8_readsMan_104 : decode cX8_readsMan 104 = .ok (.iconst 1, 1) := by decide +kernel
theorem dX8_readsMan_105 : decode cX8_readsMan 105 = .ok (.goto 4, 3) := by decide +kernel
theorem dX8_readsMan_108 : decode cX8_readsMan 108 = .ok (.iconst 0, 1) := by decide +kernel
theorem dX8_readsMan_109 : decode cX8_readsMan 109 = .ok (.istore_n 3, 1) := by decide +kernel
theorem dX8_readsMan_110 : decode cX8_readsMan 110 = .ok (.iinc 4 1, 3) := by decide +kernel
theorem dX8_readsMan_113 : decode cX8_readsMan 113 = .ok (.goto (-59), 3) := by decide +kernel
theorem dX8_readsMan_116 : decode cX8_readsMan 116 = .ok (.aload_n 0, 1) := by decide +kernel
theorem dX8_readsMan_117 : decode cX8_readsMan 117 = .ok (.dup, 1) := by decide +kernel
theorem dX8_readsMan_118 : decode cX8_readsMan 118 = .ok (.getfield 129, 3) := by decide +kernel
theorem dX8_readsMan_121 : decode cX8_readsMan 121 = .ok (.iload_n 3, 1) := by decide +kernel
theorem dX8_readsMan_122 : decode cX8_readsMan 122 = .ok (.ifCond .eq 7, 3) := by decide +kernel
theorem dX8_readsMan_125 : decode cX8_readsMan 125 = .ok (.iconst 1, 1) := by decide +kernel
theorem dX8_readsMan_126 : decode cX8_readsMan 126 = .ok (.goto 4, 3) := by decide +kernel
theorem dX8_readsMan_129 : decode cX8_readsMan 129 = .ok (.iconst 0, 1) := by decide +kernel
theorem dX8_readsMan_130 : decode cX8_readsMan 130 = .ok (.iadd, 1) := by decide +kernel
theorem dX8_readsMan_131 : decode cX8_readsMan 131 = .ok (.putfield 129, 3) := by decide +kernel
theorem dX8_readsMan_134 : decode cX8_readsMan 134 = .ok (.iload_n 3, 1) := by decide +kernel
theorem dX8_readsMan_135 : decode cX8_readsMan 135 = .ok (.ireturn, 1) := by decide +kernel
theorem dX8_faultOf_0 : decode cX8_faultOf 0 = .ok (.aload_n 0, 1) := by decide +kernel
theorem dX8_faultOf_1 : decode cX8_faultOf 1 = .ok (.bipush 60, 2) := by decide +kernel
theorem dX8_faultOf_3 : decode cX8_faultOf 3 = .ok (.iload_n 1, 1) := by decide +kernel
theorem dX8_faultOf_4 : decode cX8_faultOf 4 = .ok (.imul, 1) := by decide +kernel
theorem dX8_faultOf_5 : decode cX8_faultOf 5 = .ok (.putfield 106, 3) := by decide +kernel
theorem dX8_faultOf_8 : decode cX8_faultOf 8 = .ok (.aload_n 0, 1) := by decide +kernel
theorem dX8_faultOf_9 : decode cX8_faultOf 9 = .ok (.iconst 0, 1) := by decide +kernel
theorem dX8_faultOf_10 : decode cX8_faultOf 10 = .ok (.putfield 109, 3) := by decide +kernel
theorem dX8_faultOf_13 : decode cX8_faultOf 13 = .ok (.aload_n 0, 1) := by decide +kernel
theorem dX8_faultOf_14 : decode cX8_faultOf 14 = .ok (.aload_n 0, 1) := by decide +kernel
theorem dX8_faultOf_15 : decode cX8_faultOf 15 = .ok (.getfield 31, 3) := by decide +kernel
theorem dX8_faultOf_18 : decode cX8_faultOf 18 = .ok (.iload_n 1, 1) := by decide +kernel
theorem dX8_faultOf_19 : decode cX8_faultOf 19 = .ok (.iaload, 1) := by decide +kernel
theorem dX8_faultOf_20 : decode cX8_faultOf 20 = .ok (.putfield 112, 3) := by decide +kernel
theorem dX8_faultOf_23 : decode cX8_faultOf 23 = .ok (.aload_n 0, 1) := by decide +kernel
theorem dX8_faultOf_24 : decode cX8_faultOf 24 = .ok (.iconst 0, 1) := by decide +kernel
theorem dX8_faultOf_25 : decode cX8_faultOf 25 = .ok (.putfield 129, 3) := by decide +kernel
theorem dX8_faultOf_28 : decode cX8_faultOf 28 = .ok (.aload_n 0, 1) := by decide +kernel
theorem dX8_faultOf_29 : decode cX8_faultOf 29 = .ok (.invokevirtual 135, 3) := by decide +kernel
theorem dX8_faultOf_32 : decode cX8_faultOf 32 = .ok (.istore_n 2, 1) := by decide +kernel
theorem dX8_faultOf_33 : decode cX8_faultOf 33 = .ok (.iload_n 2, 1) := by decide +kernel
theorem dX8_faultOf_34 : decode cX8_faultOf 34 = .ok (.ifCond .eq 7, 3) := by decide +kernel
theorem dX8_faultOf_37 : decode cX8_faultOf 37 = .ok (.aload_n 0, 1) := by decide +kernel
theorem dX8_faultOf_38 : decode cX8_faultOf 38 = .ok (.invokevirtual 123, 3) := by decide +kernel
theorem dX8_faultOf_41 : decode cX8_faultOf 41 = .ok (.iload_n 2, 1) := by decide +kernel
theorem dX8_faultOf_42 : decode cX8_faultOf 42 = .ok (.ifCond .eq 30, 3) := by decide +kernel
theorem dX8_faultOf_45 : decode cX8_faultOf 45 = .ok (.aload_n 0, 1) := by decide +kernel
theorem dX8_faultOf_46 : decode cX8_faultOf 46 = .ok (.getfield 109, 3) := by decide +kernel
theorem dX8_faultOf_49 : decode cX8_faultOf 49 = .ok (.aload_n 0, 1) := by decide +kernel
theorem dX8_faultOf_50 : decode cX8_faultOf 50 = .ok (.getfield 112, 3) := by decide +kernel
theorem dX8_faultOf_53 : decode cX8_faultOf 53 = .ok (.if_icmp .ge 19, 3) := by decide +kernel
theorem dX8_faultOf_56 : decode cX8_faultOf 56 = .ok (.aload_n 0, 1) := by decide +kernel
theorem dX8_faultOf_57 : decode cX8_faultOf 57 = .ok (.invokevirtual 139, 3) := by decide +kernel
theorem dX8_faultOf_60 : decode cX8_faultOf 60 = .ok (.istore_n 2, 1) := by decide +kernel
theorem dX8_faultOf_61 : decode cX8_faultOf 61 = .ok (.iload_n 2, 1) := by decide +kernel
theorem dX8_faultOf_62 : decode cX8_faultOf 62 = .ok (.ifCond .eq (-21), 3) := by decide +kernel
theorem dX8_faultOf_65 : decode cX8_faultOf 65 = .ok (.aload_n 0, 1) := by decide +kernel
theorem dX8_faultOf_66 : decode cX8_faultOf 66 = .ok (.invokevirtual 123, 3) := by decide +kernel
theorem dX8_faultOf_69 : decode cX8_faultOf 69 = .ok (.goto (-28), 3) := by decide +kernel
theorem dX8_faultOf_72 : decode cX8_faultOf 72 = .ok (.iload_n 2, 1) := by decide +kernel
theorem dX8_faultOf_73 : decode cX8_faultOf 73 = .ok (.ifCond .eq 15, 3) := by decide +kernel
theorem dX8_faultOf_76 : decode cX8_faultOf 76 = .ok (.aload_n 0, 1) := by decide +kernel
theorem dX8_faultOf_77 : decode cX8_faultOf 77 = .ok (.getfield 129, 3) := by decide +kernel
theorem dX8_faultOf_80 : decode cX8_faultOf 80 = .ok (.ifCond .le 8, 3) := by decide +kernel
theorem dX8_faultOf_83 : decode cX8_faultOf 83 = .ok (.bipush (-9), 2) := by decide +kernel
theorem dX8_faultOf_85 : decode cX8_faultOf 85 = .ok (.goto 7, 3) := by decide +kernel
theorem dX8_faultOf_88 : decode cX8_faultOf 88 = .ok (.aload_n 0, 1) := by decide +kernel
theorem dX8_faultOf_89 : decode cX8_faultOf 89 = .ok (.getfield 109, 3) := by decide +kernel
theorem dX8_faultOf_92 : decode cX8_faultOf 92 = .ok (.ireturn, 1) := by decide +kernel
theorem dX8_fault_0 : decode cX8_fault 0 = .ok (.iload_n 1, 1) := by decide +kernel
theorem dX8_fault_1 : decode cX8_fault 1 = .ok (.invokestatic 103, 3) := by decide +kernel
theorem dX8_fault_4 : decode cX8_fault 4 = .ok (.ifCond .ne 5, 3) := by decide +kernel
theorem dX8_fault_7 : decode cX8_fault 7 = .ok (.iconst (-1), 1) := by decide +kernel
theorem dX8_fault_8 : decode cX8_fault 8 = .ok (.ireturn, 1) := by decide +kernel
theorem dX8_fault_9 : decode cX8_fault 9 = .ok (.aload_n 0, 1) := by decide +kernel
theorem dX8_fault_10 : decode cX8_fault 10 = .ok (.getfield 31, 3) := by decide +kernel
theorem dX8_fault_13 : decode cX8_fault 13 = .ok (.iload_n 1, 1) := by decide +kernel
theorem dX8_fault_14 : decode cX8_fault 14 = .ok (.iaload, 1) := by decide +kernel
theorem dX8_fault_15 : decode cX8_fault 15 = .ok (.ifCond .ge 11, 3) := by decide +kernel
theorem dX8_fault_18 : decode cX8_fault 18 = .ok (.aload_n 0, 1) := by decide +kernel
theorem dX8_fault_19 : decode cX8_fault 19 = .ok (.iconst 1, 1) := by decide +kernel
theorem dX8_fault_20 : decode cX8_fault 20 = .ok (.invokevirtual 84, 3) := by decide +kernel
theorem dX8_fault_23 : decode cX8_fault 23 = .ok (.goto 8, 3) := by decide +kernel
theorem dX8_fault_26 : decode cX8_fault 26 = .ok (.aload_n 0, 1) := by decide +kernel
theorem dX8_fault_27 : decode cX8_fault 27 = .ok (.iload_n 1, 1) := by decide +kernel
theorem dX8_fault_28 : decode cX8_fault 28 = .ok (.invokevirtual 142, 3) := by decide +kernel
theorem dX8_fault_31 : decode cX8_fault 31 = .ok (.ireturn, 1) := by decide +kernel
theorem dX8_court_0 : decode cX8_court 0 = .ok (.iload_n 1, 1) := by decide +kernel
theorem dX8_court_1 : decode cX8_court 1 = .ok (.invokestatic 103, 3) := by decide +kernel
theorem dX8_court_4 : decode cX8_court 4 = .ok (.ifCond .ne 5, 3) := by decide +kernel
theorem dX8_court_7 : decode cX8_court 7 = .ok (.iconst (-1), 1) := by decide +kernel
theorem dX8_court_8 : decode cX8_court 8 = .ok (.ireturn, 1) := by decide +kernel
theorem dX8_court_9 : decode cX8_court 9 = .ok (.aload_n 0, 1) := by decide +kernel
theorem dX8_court_10 : decode cX8_court 10 = .ok (.getfield 31, 3) := by decide +kernel
theorem dX8_court_13 : decode cX8_court 13 = .ok (.iload_n 1, 1) := by decide +kernel
theorem dX8_court_14 : decode cX8_court 14 = .ok (.iaload, 1) := by decide +kernel
theorem dX8_court_15 : decode cX8_court 15 = .ok (.ifCond .ge 9, 3) := by decide +kernel
theorem dX8_court_18 : decode cX8_court 18 = .ok (.aload_n 0, 1) := by decide +kernel
theorem dX8_court_19 : decode cX8_court 19 = .ok (.iconst 1, 1) := by decide +kernel
theorem dX8_court_20 : decode cX8_court 20 = .ok (.invokevirtual 84, 3) := by decide +kernel
theorem dX8_court_23 : decode cX8_court 23 = .ok (.ireturn, 1) := by decide +kernel
theorem dX8_court_24 : decode cX8_court 24 = .ok (.aload_n 0, 1) := by decide +kernel
theorem dX8_court_25 : decode cX8_court 25 = .ok (.iload_n 1, 1) := by decide +kernel
theorem dX8_court_26 : decode cX8_court 26 = .ok (.invokevirtual 142, 3) := by decide +kernel
theorem dX8_court_29 : decode cX8_court 29 = .ok (.bipush (-9), 2) := by decide +kernel
theorem dX8_court_31 : decode cX8_court 31 = .ok (.if_icmp .eq 6, 3) := by decide +kernel
theorem dX8_court_34 : decode cX8_court 34 = .ok (.bipush (-4), 2) := by decide +kernel
theorem dX8_court_36 : decode cX8_court 36 = .ok (.ireturn, 1) := by decide +kernel
theorem dX8_court_37 : decode cX8_court 37 = .ok (.aload_n 0, 1) := by decide +kernel
theorem dX8_court_38 : decode cX8_court 38 = .ok (.aload_n 0, 1) := by decide +kernel
theorem dX8_court_39 : decode cX8_court 39 = .ok (.getfield 44, 3) := by decide +kernel
theorem dX8_court_42 : decode cX8_court 42 = .ok (.iconst 0, 1) := by decide +kernel
theorem dX8_court_43 : decode cX8_court 43 = .ok (.iaload, 1) := by decide +kernel
theorem dX8_court_44 : decode cX8_court 44 = .ok (.putfield 145, 3) := by decide +kernel
theorem dX8_court_47 : decode cX8_court 47 = .ok (.aload_n 0, 1) := by decide +kernel
theorem dX8_court_48 : decode cX8_court 48 = .ok (.aload_n 0, 1) := by decide +kernel
theorem dX8_court_49 : decode cX8_court 49 = .ok (.getfield 44, 3) := by decide +kernel
theorem dX8_court_52 : decode cX8_court 52 = .ok (.iconst 1, 1) := by decide +kernel
theorem dX8_court_53 : decode cX8_court 53 = .ok (.iaload, 1) := by decide +kernel
theorem dX8_court_54 : decode cX8_court 54 = .ok (.putfield 148, 3) := by decide +kernel
theorem dX8_court_57 : decode cX8_court 57 = .ok (.aload_n 0, 1) := by decide +kernel
theorem dX8_court_58 : decode cX8_court 58 = .ok (.aload_n 0, 1) := by decide +kernel
theorem dX8_court_59 : decode cX8_court 59 = .ok (.getfield 44, 3) := by decide +kernel
theorem dX8_court_62 : decode cX8_court 62 = .ok (.iconst 2, 1) := by decide +kernel
theorem dX8_court_63 : decode cX8_court 63 = .ok (.iaload, 1) := by decide +kernel
theorem dX8_court_64 : decode cX8_court 64 = .ok (.putfield 151, 3) := by decide +kernel
theorem dX8_court_67 : decode cX8_court 67 = .ok (.aload_n 0, 1) := by decide +kernel
theorem dX8_court_68 : decode cX8_court 68 = .ok (.aload_n 0, 1) := by decide +kernel
theorem dX8_court_69 : decode cX8_court 69 = .ok (.getfield 44, 3) := by decide +kernel
theorem dX8_court_72 : decode cX8_court 72 = .ok (.iconst 3, 1) := by decide +kernel
theorem dX8_court_73 : decode cX8_court 73 = .ok (.iaload, 1) := by decide +kernel
theorem dX8_court_74 : decode cX8_court 74 = .ok (.putfield 154, 3) := by decide +kernel
theorem dX8_court_77 : decode cX8_court 77 = .ok (.aload_n 0, 1) := by decide +kernel
theorem dX8_court_78 : decode cX8_court 78 = .ok (.aload_n 0, 1) := by decide +kernel
theorem dX8_court_79 : decode cX8_court 79 = .ok (.getfield 129, 3) := by decide +kernel
theorem dX8_court_82 : decode cX8_court 82 = .ok (.putfield 157, 3) := by decide +kernel
theorem dX8_court_85 : decode cX8_court 85 = .ok (.iconst 0, 1) := by decide +kernel
theorem dX8_court_86 : decode cX8_court 86 = .ok (.istore_n 2, 1) := by decide +kernel
theorem dX8_court_87 : decode cX8_court 87 = .ok (.iload_n 2, 1) := by decide +kernel
theorem dX8_court_88 : decode cX8_court 88 = .ok (.aload_n 0, 1) := by decide +kernel
theorem dX8_court_89 : decode cX8_court 89 = .ok (.getfield 157, 3) := by decide +kernel
theorem dX8_court_92 : decode cX8_court 92 = .ok (.if_icmp .ge 71, 3) := by decide +kernel
theorem dX8_court_95 : decode cX8_court 95 = .ok (.aload_n 0, 1) := by decide +kernel
theorem dX8_court_96 : decode cX8_court 96 = .ok (.getfield 13, 3) := by decide +kernel
theorem dX8_court_99 : decode cX8_court 99 = .ok (.iload_n 2, 1) := by decide +kernel
theorem dX8_court_100 : decode cX8_court 100 = .ok (.aload_n 0, 1) := by decide +kernel
theorem dX8_court_101 : decode cX8_court 101 = .ok (.getfield 47, 3) := by decide +kernel
theorem dX8_court_104 : decode cX8_court 104 = .ok (.iconst 4, 1) := by decide +kernel
theorem dX8_court_105 : decode cX8_court 105 = .ok (.iload_n 2, 1) := by decide +kernel
theorem dX8_court_106 : decode cX8_court 106 = .ok (.imul, 1) := by decide +kernel
theorem dX8_court_107 : decode cX8_court 107 = .ok (.iaload, 1) := by decide +kernel
theorem dX8_court_108 : decode cX8_court 108 = .ok (.iastore, 1) := by decide +kernel
theorem dX8_court_109 : decode cX8_court 109 = .ok (.aload_n 0, 1) := by decide +kernel
theorem dX8_court_110 : decode cX8_court 110 = .ok (.getfield 16, 3) := by decide +kernel
theorem dX8_court_113 : decode cX8_court 113 = .ok (.iload_n 2, 1) := by decide +kernel
theorem dX8_court_114 : decode cX8_court 114 = .ok (.aload_n 0, 1) := by decide +kernel
theorem dX8_court_115 : decode cX8_court 115 = .ok (.getfield 47, 3) := by decide +kernel
theorem dX8_court_118 : decode cX8_court 118 = .ok (.iconst 4, 1) := by decide +kernel
theorem dX8_court_119 : decode cX8_court 119 = .ok (.iload_n 2, 1) := by decide +kernel
theorem dX8_court_120 : decode cX8_court 120 = .ok (.imul, 1) := by decide +kernel
theorem dX8_court_121 : decode cX8_court 121 = .ok (.iconst 1, 1) := by decide +kernel
theorem dX8_court_122 : decode cX8_court 122 = .ok (.iadd, 1) := by decide +kernel
theorem dX8_court_123 : decode cX8_court 123 = .ok (.iaload, 1) := by decide +kernel
theorem dX8_court_124 : decode cX8_court 124 = .ok (.iastore, 1) := by decide +kernel
theorem dX8_court_125 : decode cX8_court 125 = .ok (.aload_n 0, 1) := by decide +kernel
theorem dX8_court_126 : decode cX8_court 126 = .ok (.getfield 19, 3) := by decide +kernel
theorem dX8_court_129 : decode cX8_court 129 = .ok (.iload_n 2, 1) := by decide +kernel
theorem dX8_court_130 : decode cX8_court 130 = .ok (.aload_n 0, 1) := by decide +kernel
theorem dX8_court_131 : decode cX8_court 131 = .ok (.getfield 47, 3) := by decide +kernel
theorem dX8_court_134 : decode cX8_court 134 = .ok (.iconst 4, 1) := by decide +kernel
theorem dX8_court_135 : decode cX8_court 135 = .ok (.iload_n 2, 1) := by decide +kernel
theorem dX8_court_136 : decode cX8_court 136 = .ok (.imul, 1) := by decide +kernel
theorem dX8_court_137 : decode cX8_court 137 = .ok (.iconst 2, 1) := by decide +kernel
theorem dX8_court_138 : decode cX8_court 138 = .ok (.iadd, 1) := by decide +kernel
theorem dX8_court_139 : decode cX8_court 139 = .ok (.iaload, 1) := by decide +kernel
theorem dX8_court_140 : decode cX8_court 140 = .ok (.iastore, 1) := by decide +kernel
theorem dX8_court_141 : decode cX8_court 141 = .ok (.aload_n 0, 1) := by decide +kernel
theorem dX8_court_142 : decode cX8_court 142 = .ok (.getfield 22, 3) := by decide +kernel
theorem dX8_court_145 : decode cX8_court 145 = .ok (.iload_n 2, 1) := by decide +kernel
theorem dX8_court_146 : decode cX8_court 146 = .ok (.aload_n 0, 1) := by decide +kernel
theorem dX8_court_147 : decode cX8_court 147 = .ok (.getfield 47, 3) := by decide +kernel
theorem dX8_court_150 : decode cX8_court 150 = .ok (.iconst 4, 1) := by decide +kernel
theorem dX8_court_151 : decode cX8_court 151 = .ok (.iload_n 2, 1) := by decide +kernel
theorem dX8_court_152 : decode cX8_court 152 = .ok (.imul, 1) := by decide +kernel
theorem dX8_court_153 : decode cX8_court 153 = .ok (.iconst 3, 1) := by decide +kernel
theorem dX8_court_154 : decode cX8_court 154 = .ok (.iadd, 1) := by decide +kernel
theorem dX8_court_155 : decode cX8_court 155 = .ok (.iaload, 1) := by decide +kernel
theorem dX8_court_156 : decode cX8_court 156 = .ok (.iastore, 1) := by decide +kernel
theorem dX8_court_157 : decode cX8_court 157 = .ok (.iinc 2 1, 3) := by decide +kernel
theorem dX8_court_160 : decode cX8_court 160 = .ok (.goto (-73), 3) := by decide +kernel
theorem dX8_court_163 : decode cX8_court 163 = .ok (.aload_n 0, 1) := by decide +kernel
theorem dX8_court_164 : decode cX8_court 164 = .ok (.invokevirtual 62, 3) := by decide +kernel
theorem dX8_court_167 : decode cX8_court 167 = .ok (.aload_n 0, 1) := by decide +kernel
theorem dX8_court_168 : decode cX8_court 168 = .ok (.getfield 157, 3) := by decide +kernel
theorem dX8_court_171 : decode cX8_court 171 = .ok (.ireturn, 1) := by decide +kernel
theorem dX8_isMan_0 : decode cX8_isMan 0 = .ok (.iload_n 1, 1) := by decide +kernel
theorem dX8_isMan_1 : decode cX8_isMan 1 = .ok (.i2l, 1) := by decide +kernel
theorem dX8_isMan_2 : decode cX8_isMan 2 = .ok (.lconst 0, 1) := by decide +kernel
theorem dX8_isMan_3 : decode cX8_isMan 3 = .ok (.aload_n 0, 1) := by decide +kernel
theorem dX8_isMan_4 : decode cX8_isMan 4 = .ok (.getfield 157, 3) := by decide +kernel
theorem dX8_isMan_7 : decode cX8_isMan 7 = .ok (.iconst 1, 1) := by decide +kernel
theorem dX8_isMan_8 : decode cX8_isMan 8 = .ok (.isub, 1) := by decide +kernel
theorem dX8_isMan_9 : decode cX8_isMan 9 = .ok (.i2l, 1) := by decide +kernel
theorem dX8_isMan_10 : decode cX8_isMan 10 = .ok (.invokestatic 74, 3) := by decide +kernel
theorem dX8_isMan_13 : decode cX8_isMan 13 = .ok (.ireturn, 1) := by decide +kernel
theorem dX8_isClerk_0 : decode cX8_isClerk 0 = .ok (.iload_n 0, 1) := by decide +kernel
theorem dX8_isClerk_1 : decode cX8_isClerk 1 = .ok (.iconst 2, 1) := by decide +kernel
theorem dX8_isClerk_2 : decode cX8_isClerk 2 = .ok (.if_icmp .eq 8, 3) := by decide +kernel
theorem dX8_isClerk_5 : decode cX8_isClerk 5 = .ok (.iload_n 0, 1) := by decide +kernel
theorem dX8_isClerk_6 : decode cX8_isClerk 6 = .ok (.iconst 5, 1) := by decide +kernel
theorem dX8_isClerk_7 : decode cX8_isClerk 7 = .ok (.if_icmp .ne 7, 3) := by decide +kernel
theorem dX8_isClerk_10 : decode cX8_isClerk 10 = .ok (.iconst 1, 1) := by decide +kernel
theorem dX8_isClerk_11 : decode cX8_isClerk 11 = .ok (.goto 4, 3) := by decide +kernel
theorem dX8_isClerk_14 : decode cX8_isClerk 14 = .ok (.iconst 0, 1) := by decide +kernel
theorem dX8_isClerk_15 : decode cX8_isClerk 15 = .ok (.ireturn, 1) := by decide +kernel
theorem dX8_hardBy_0 : decode cX8_hardBy 0 = .ok (.iload_n 0, 1) := by decide +kernel
theorem dX8_hardBy_1 : decode cX8_hardBy 1 = .ok (.iconst 1, 1) := by decide +kernel
theorem dX8_hardBy_2 : decode cX8_hardBy 2 = .ok (.if_icmp .ne 9, 3) := by decide +kernel
theorem dX8_hardBy_5 : decode cX8_hardBy 5 = .ok (.iload_n 1, 1) := by decide +kernel
theorem dX8_hardBy_6 : decode cX8_hardBy 6 = .ok (.iconst 3, 1) := by decide +kernel
theorem dX8_hardBy_7 : decode cX8_hardBy 7 = .ok (.iadd, 1) := by decide +kernel
theorem dX8_hardBy_8 : decode cX8_hardBy 8 = .ok (.goto 28, 3) := by decide +kernel
theorem dX8_hardBy_11 : decode cX8_hardBy 11 = .ok (.iload_n 0, 1) := by decide +kernel
theorem dX8_hardBy_12 : decode cX8_hardBy 12 = .ok (.iconst 4, 1) := by decide +kernel
theorem dX8_hardBy_13 : decode cX8_hardBy 13 = .ok (.if_icmp .ne 9, 3) := by decide +kernel
theorem dX8_hardBy_16 : decode cX8_hardBy 16 = .ok (.iload_n 1, 1) := by decide +kernel
theorem dX8_hardBy_17 : decode cX8_hardBy 17 = .ok (.iconst 5, 1) := by decide +kernel
theorem dX8_hardBy_18 : decode cX8_hardBy 18 = .ok (.iadd, 1) := by decide +kernel
theorem dX8_hardBy_19 : decode cX8_hardBy 19 = .ok (.goto 17, 3) := by decide +kernel
theorem dX8_hardBy_22 : decode cX8_hardBy 22 = .ok (.iload_n 0, 1) := by decide +kernel
theorem dX8_hardBy_23 : decode cX8_hardBy 23 = .ok (.invokestatic 160, 3) := by decide +kernel
theorem dX8_hardBy_26 : decode cX8_hardBy 26 = .ok (.ifCond .eq 9, 3) := by decide +kernel
theorem dX8_hardBy_29 : decode cX8_hardBy 29 = .ok (.iload_n 1, 1) := by decide +kernel
theorem dX8_hardBy_30 : decode cX8_hardBy 30 = .ok (.iconst 2, 1) := by decide +kernel
theorem dX8_hardBy_31 : decode cX8_hardBy 31 = .ok (.idiv, 1) := by decide +kernel
theorem dX8_hardBy_32 : decode cX8_hardBy 32 = .ok (.goto 4, 3) := by decide +kernel
theorem dX8_hardBy_35 : decode cX8_hardBy 35 = .ok (.iload_n 1, 1) := by decide +kernel
theorem dX8_hardBy_36 : decode cX8_hardBy 36 = .ok (.ireturn, 1) := by decide +kernel
theorem dX8_plainFeels_0 : decode cX8_plainFeels 0 = .ok (.iload_n 2, 1) := by decide +kernel
theorem dX8_plainFeels_1 : decode cX8_plainFeels 1 = .ok (.aload_n 0, 1) := by decide +kernel
theorem dX8_plainFeels_2 : decode cX8_plainFeels 2 = .ok (.getfield 19, 3) := by decide +kernel
theorem dX8_plainFeels_5 : decode cX8_plainFeels 5 = .ok (.iload_n 1, 1) := by decide +kernel
theorem dX8_plainFeels_6 : decode cX8_plainFeels 6 = .ok (.iaload, 1) := by decide +kernel
theorem dX8_plainFeels_7 : decode cX8_plainFeels 7 = .ok (.iconst 4, 1) := by decide +kernel
theorem dX8_plainFeels_8 : decode cX8_plainFeels 8 = .ok (.if_icmp .le 10, 3) := by decide +kernel
theorem dX8_plainFeels_11 : decode cX8_plainFeels 11 = .ok (.aload_n 0, 1) := by decide +kernel
theorem dX8_plainFeels_12 : decode cX8_plainFeels 12 = .ok (.getfield 148, 3) := by decide +kernel
theorem dX8_plainFeels_15 : decode cX8_plainFeels 15 = .ok (.goto 4, 3) := by decide +kernel
theorem dX8_plainFeels_18 : decode cX8_plainFeels 18 = .ok (.iconst 0, 1) := by decide +kernel
theorem dX8_plainFeels_19 : decode cX8_plainFeels 19 = .ok (.isub, 1) := by decide +kernel
theorem dX8_plainFeels_20 : decode cX8_plainFeels 20 = .ok (.invokestatic 163, 3) := by decide +kernel
theorem dX8_plainFeels_23 : decode cX8_plainFeels 23 = .ok (.ireturn, 1) := by decide +kernel
theorem dX8_burnsBy_0 : decode cX8_burnsBy 0 = .ok (.iload_n 2, 1) := by decide +kernel
theorem dX8_burnsBy_1 : decode cX8_burnsBy 1 = .ok (.iconst 5, 1) := by decide +kernel
theorem dX8_burnsBy_2 : decode cX8_burnsBy 2 = .ok (.if_icmp .ne 15, 3) := by decide +kernel
theorem dX8_burnsBy_5 : decode cX8_burnsBy 5 = .ok (.aload_n 0, 1) := by decide +kernel
theorem dX8_burnsBy_6 : decode cX8_burnsBy 6 = .ok (.iload_n 1, 1) := by decide +kernel
theorem dX8_burnsBy_7 : decode cX8_burnsBy 7 = .ok (.iload 4, 2) := by decide +kernel
theorem dX8_burnsBy_9 : decode cX8_burnsBy 9 = .ok (.invokevirtual 166, 3) := by decide +kernel
theorem dX8_burnsBy_12 : decode cX8_burnsBy 12 = .ok (.iconst 2, 1) := by decide +kernel
theorem dX8_burnsBy_13 : decode cX8_burnsBy 13 = .ok (.idiv, 1) := by decide +kernel
theorem dX8_burnsBy_14 : decode cX8_burnsBy 14 = .ok (.goto 10, 3) := by decide +kernel
theorem dX8_burnsBy_17 : decode cX8_burnsBy 17 = .ok (.aload_n 0, 1) := by decide +kernel
theorem dX8_burnsBy_18 : decode cX8_burnsBy 18 = .ok (.iload_n 1, 1) := by decide +kernel
theorem dX8_burnsBy_19 : decode cX8_burnsBy 19 = .ok (.iload 4, 2) := by decide +kernel
theorem dX8_burnsBy_21 : decode cX8_burnsBy 21 = .ok (.invokevirtual 166, 3) := by decide +kernel
theorem dX8_burnsBy_24 : decode cX8_burnsBy 24 = .ok (.istore 5, 2) := by decide +kernel
theorem dX8_burnsBy_26 : decode cX8_burnsBy 26 = .ok (.aload_n 0, 1) := by decide +kernel
theorem dX8_burnsBy_27 : decode cX8_burnsBy 27 = .ok (.getfield 145, 3) := by decide +kernel
theorem dX8_burnsBy_30 : decode cX8_burnsBy 30 = .ok (.iload 5, 2) := by decide +kernel
theorem dX8_burnsBy_32 : decode cX8_burnsBy 32 = .ok (.imul, 1) := by decide +kernel
theorem dX8_burnsBy_33 : decode cX8_burnsBy 33 = .ok (.iload_n 2, 1) := by decide +kernel
theorem dX8_burnsBy_34 : decode cX8_burnsBy 34 = .ok (.iload_n 3, 1) := by decide +kernel
theorem dX8_burnsBy_35 : decode cX8_burnsBy 35 = .ok (.invokestatic 169, 3) := by decide +kernel
theorem dX8_burnsBy_38 : decode cX8_burnsBy 38 = .ok (.isub, 1) := by decide +kernel
theorem dX8_burnsBy_39 : decode cX8_burnsBy 39 = .ok (.invokestatic 163, 3) := by decide +kernel
theorem dX8_burnsBy_42 : decode cX8_burnsBy 42 = .ok (.ireturn, 1) := by decide +kernel
theorem dX8_burns_0 : decode cX8_burns 0 = .ok (.aload_n 0, 1) := by decide +kernel
theorem dX8_burns_1 : decode cX8_burns 1 = .ok (.iload_n 1, 1) := by decide +kernel
theorem dX8_burns_2 : decode cX8_burns 2 = .ok (.aload_n 0, 1) := by decide +kernel
theorem dX8_burns_3 : decode cX8_burns 3 = .ok (.getfield 13, 3) := by decide +kernel
theorem dX8_burns_6 : decode cX8_burns 6 = .ok (.iload_n 1, 1) := by decide +kernel
theorem dX8_burns_7 : decode cX8_burns 7 = .ok (.iaload, 1) := by decide +kernel
theorem dX8_burns_8 : decode cX8_burns 8 = .ok (.aload_n 0, 1) := by decide +kernel
theorem dX8_burns_9 : decode cX8_burns 9 = .ok (.getfield 22, 3) := by decide +kernel
theorem dX8_burns_12 : decode cX8_burns 12 = .ok (.iload_n 1, 1) := by decide +kernel
theorem dX8_burns_13 : decode cX8_burns 13 = .ok (.iaload, 1) := by decide +kernel
theorem dX8_burns_14 : decode cX8_burns 14 = .ok (.iload_n 2, 1) := by decide +kernel
theorem dX8_burns_15 : decode cX8_burns 15 = .ok (.invokevirtual 172, 3) := by decide +kernel
theorem dX8_burns_18 : decode cX8_burns 18 = .ok (.ireturn, 1) := by decide +kernel
theorem dX8_comesBy_0 : decode cX8_comesBy 0 = .ok (.aload_n 0, 1) := by decide +kernel
theorem dX8_comesBy_1 : decode cX8_comesBy 1 = .ok (.getfield 16, 3) := by decide +kernel
theorem dX8_comesBy_4 : decode cX8_comesBy 4 = .ok (.iload_n 1, 1) := by decide +kernel
theorem dX8_comesBy_5 : decode cX8_comesBy 5 = .ok (.iaload, 1) := by decide +kernel
theorem dX8_comesBy_6 : decode cX8_comesBy 6 = .ok (.ifCond .eq 13, 3) := by decide +kernel
theorem dX8_comesBy_9 : decode cX8_comesBy 9 = .ok (.aload_n 0, 1) := by decide +kernel
theorem dX8_comesBy_10 : decode cX8_comesBy 10 = .ok (.getfield 19, 3) := by decide +kernel
theorem dX8_comesBy_13 : decode cX8_comesBy 13 = .ok (.iload_n 1, 1) := by decide +kernel
theorem dX8_comesBy_14 : decode cX8_comesBy 14 = .ok (.iaload, 1) := by decide +kernel
theorem dX8_comesBy_15 : decode cX8_comesBy 15 = .ok (.iconst 3, 1) := by decide +kernel
theorem dX8_comesBy_16 : decode cX8_comesBy 16 = .ok (.if_icmp .ge 7, 3) := by decide +kernel
theorem dX8_comesBy_19 : decode cX8_comesBy 19 = .ok (.iconst 1, 1) := by decide +kernel
theorem dX8_comesBy_20 : decode cX8_comesBy 20 = .ok (.goto 4, 3) := by decide +kernel
theorem dX8_comesBy_23 : decode cX8_comesBy 23 = .ok (.iconst 0, 1) := by decide +kernel
theorem dX8_comesBy_24 : decode cX8_comesBy 24 = .ok (.istore 4, 2) := by decide +kernel
theorem dX8_comesBy_26 : decode cX8_comesBy 26 = .ok (.iload_n 2, 1) := by decide +kernel
theorem dX8_comesBy_27 : decode cX8_comesBy 27 = .ok (.iconst 4, 1) := by decide +kernel
theorem dX8_comesBy_28 : decode cX8_comesBy 28 = .ok (.if_icmp .eq 32, 3) := by decide +kernel
theorem dX8_comesBy_31 : decode cX8_comesBy 31 = .ok (.iload 4, 2) := by decide +kernel
theorem dX8_comesBy_33 : decode cX8_comesBy 33 = .ok (.ifCond .eq 31, 3) := by decide +kernel
theorem dX8_comesBy_36 : decode cX8_comesBy 36 = .ok (.iload_n 2, 1) := by decide +kernel
theorem dX8_comesBy_37 : decode cX8_comesBy 37 = .ok (.invokestatic 160, 3) := by decide +kernel
theorem dX8_comesBy_40 : decode cX8_comesBy 40 = .ok (.ifCond .eq 9, 3) := by decide +kernel
theorem dX8_comesBy_43 : decode cX8_comesBy 43 = .ok (.iload_n 3, 1) := by decide +kernel
theorem dX8_comesBy_44 : decode cX8_comesBy 44 = .ok (.bipush 20, 2) := by decide +kernel
theorem dX8_comesBy_46 : decode cX8_comesBy 46 = .ok (.if_icmp .gt 18, 3) := by decide +kernel
theorem dX8_comesBy_49 : decode cX8_comesBy 49 = .ok (.iload_n 2, 1) := by decide +kernel
theorem dX8_comesBy_50 : decode cX8_comesBy 50 = .ok (.iconst 3, 1) := by decide +kernel
theorem dX8_comesBy_51 : decode cX8_comesBy 51 = .ok (.if_icmp .ne 9, 3) := by decide +kernel
theorem dX8_comesBy_54 : decode cX8_comesBy 54 = .ok (.iload_n 3, 1) := by decide +kernel
theorem dX8_comesBy_55 : decode cX8_comesBy 55 = .ok (.bipush 10, 2) := by decide +kernel
theorem dX8_comesBy_57 : decode cX8_comesBy 57 = .ok (.if_icmp .gt 7, 3) := by decide +kernel
theorem dX8_comesBy_60 : decode cX8_comesBy 60 = .ok (.iconst 1, 1) := by decide +kernel
theorem dX8_comesBy_61 : decode cX8_comesBy 61 = .ok (.goto 4, 3) := by decide +kernel
theorem dX8_comesBy_64 : decode cX8_comesBy 64 = .ok (.iconst 0, 1) := by decide +kernel
theorem dX8_comesBy_65 : decode cX8_comesBy 65 = .ok (.ireturn, 1) := by decide +kernel
theorem dX8_doesCome_0 : decode cX8_doesCome 0 = .ok (.aload_n 0, 1) := by decide +kernel
theorem dX8_doesCome_1 : decode cX8_doesCome 1 = .ok (.iload_n 1, 1) := by decide +kernel
theorem dX8_doesCome_2 : decode cX8_doesCome 2 = .ok (.aload_n 0, 1) := by decide +kernel
theorem dX8_doesCome_3 : decode cX8_doesCome 3 = .ok (.getfield 13, 3) := by decide +kernel
theorem dX8_doesCome_6 : decode cX8_doesCome 6 = .ok (.iload_n 1, 1) := by decide +kernel
theorem dX8_doesCome_7 : decode cX8_doesCome 7 = .ok (.iaload, 1) := by decide +kernel
theorem dX8_doesCome_8 : decode cX8_doesCome 8 = .ok (.iload_n 2, 1) := by decide +kernel
theorem dX8_doesCome_9 : decode cX8_doesCome 9 = .ok (.invokevirtual 176, 3) := by decide +kernel
theorem dX8_doesCome_12 : decode cX8_doesCome 12 = .ok (.ireturn, 1) := by decide +kernel
theorem dX8_bearable_0 : decode cX8_bearable 0 = .ok (.aload_n 0, 1) := by decide +kernel
theorem dX8_bearable_1 : decode cX8_bearable 1 = .ok (.getfield 151, 3) := by decide +kernel
theorem dX8_bearable_4 : decode cX8_bearable 4 = .ok (.iconst 2, 1) := by decide +kernel
theorem dX8_bearable_5 : decode cX8_bearable 5 = .ok (.aload_n 0, 1) := by decide +kernel
theorem dX8_bearable_6 : decode cX8_bearable 6 = .ok (.getfield 7, 3) := by decide +kernel
theorem dX8_bearable_9 : decode cX8_bearable 9 = .ok (.iload_n 1, 1) := by decide +kernel
theorem dX8_bearable_10 : decode cX8_bearable 10 = .ok (.iconst 5, 1) := by decide +kernel
theorem dX8_bearable_11 : decode cX8_bearable 11 = .ok (.iadd, 1) := by decide +kernel
theorem dX8_bearable_12 : decode cX8_bearable 12 = .ok (.iload_n 2, 1) := by decide +kernel
theorem dX8_bearable_13 : decode cX8_bearable 13 = .ok (.iadd, 1) := by decide +kernel
theorem dX8_bearable_14 : decode cX8_bearable 14 = .ok (.iaload, 1) := by decide +kernel
theorem dX8_bearable_15 : decode cX8_bearable 15 = .ok (.imul, 1) := by decide +kernel
theorem dX8_bearable_16 : decode cX8_bearable 16 = .ok (.iadd, 1) := by decide +kernel
theorem dX8_bearable_17 : decode cX8_bearable 17 = .ok (.ireturn, 1) := by decide +kernel
theorem dX8_isClean_0 : decode cX8_isClean 0 = .ok (.aload_n 0, 1) := by decide +kernel
theorem dX8_isClean_1 : decode cX8_isClean 1 = .ok (.iload_n 2, 1) := by decide +kernel
theorem dX8_isClean_2 : decode cX8_isClean 2 = .ok (.iload_n 3, 1) := by decide +kernel
theorem dX8_isClean_3 : decode cX8_isClean 3 = .ok (.invokevirtual 179, 3) := by decide +kernel
theorem dX8_isClean_6 : decode cX8_isClean 6 = .ok (.aload_n 0, 1) := by decide +kernel
theorem dX8_isClean_7 : decode cX8_isClean 7 = .ok (.iload_n 1, 1) := by decide +kernel
theorem dX8_isClean_8 : decode cX8_isClean 8 = .ok (.iload_n 2, 1) := by decide +kernel
theorem dX8_isClean_9 : decode cX8_isClean 9 = .ok (.invokevirtual 182, 3) := by decide +kernel
theorem dX8_isClean_12 : decode cX8_isClean 12 = .ok (.if_icmp .gt 7, 3) := by decide +kernel
theorem dX8_isClean_15 : decode cX8_isClean 15 = .ok (.iconst 1, 1) := by decide +kernel
theorem dX8_isClean_16 : decode cX8_isClean 16 = .ok (.goto 4, 3) := by decide +kernel
theorem dX8_isClean_19 : decode cX8_isClean 19 = .ok (.iconst 0, 1) := by decide +kernel
theorem dX8_isClean_20 : decode cX8_isClean 20 = .ok (.ireturn, 1) := by decide +kernel
theorem dX8_tellsBy_0 : decode cX8_tellsBy 0 = .ok (.aload_n 0, 1) := by decide +kernel
theorem dX8_tellsBy_1 : decode cX8_tellsBy 1 = .ok (.iload_n 1, 1) := by decide +kernel
theorem dX8_tellsBy_2 : decode cX8_tellsBy 2 = .ok (.iload_n 2, 1) := by decide +kernel
theorem dX8_tellsBy_3 : decode cX8_tellsBy 3 = .ok (.iload 4, 2) := by decide +kernel
theorem dX8_tellsBy_5 : decode cX8_tellsBy 5 = .ok (.invokevirtual 176, 3) := by decide +kernel
theorem dX8_tellsBy_8 : decode cX8_tellsBy 8 = .ok (.ifCond .ne 7, 3) := by decide +kernel
theorem dX8_tellsBy_11 : decode cX8_tellsBy 11 = .ok (.iconst 2, 1) := by decide +kernel
theorem dX8_tellsBy_12 : decode cX8_tellsBy 12 = .ok (.goto 26, 3) := by decide +kernel
theorem dX8_tellsBy_15 : decode cX8_tellsBy 15 = .ok (.aload_n 0, 1) := by decide +kernel
theorem dX8_tellsBy_16 : decode cX8_tellsBy 16 = .ok (.iload_n 1, 1) := by decide +kernel
theorem dX8_tellsBy_17 : decode cX8_tellsBy 17 = .ok (.iload_n 2, 1) := by decide +kernel
theorem dX8_tellsBy_18 : decode cX8_tellsBy 18 = .ok (.iload_n 3, 1) := by decide +kernel
theorem dX8_tellsBy_19 : decode cX8_tellsBy 19 = .ok (.iload 4, 2) := by decide +kernel
theorem dX8_tellsBy_21 : decode cX8_tellsBy 21 = .ok (.invokevirtual 172, 3) := by decide +kernel
theorem dX8_tellsBy_24 : decode cX8_tellsBy 24 = .ok (.aload_n 0, 1) := by decide +kernel
theorem dX8_tellsBy_25 : decode cX8_tellsBy 25 = .ok (.iconst 0, 1) := by decide +kernel
theorem dX8_tellsBy_26 : decode cX8_tellsBy 26 = .ok (.iload_n 1, 1) := by decide +kernel
theorem dX8_tellsBy_27 : decode cX8_tellsBy 27 = .ok (.invokevirtual 182, 3) := by decide +kernel
theorem dX8_tellsBy_30 : decode cX8_tellsBy 30 = .ok (.if_icmp .gt 7, 3) := by decide +kernel
theorem dX8_tellsBy_33 : decode cX8_tellsBy 33 = .ok (.iconst 1, 1) := by decide +kernel
theorem dX8_tellsBy_34 : decode cX8_tellsBy 34 = .ok (.goto 4, 3) := by decide +kernel
theorem dX8_tellsBy_37 : decode cX8_tellsBy 37 = .ok (.iconst 0, 1) := by decide +kernel
theorem dX8_tellsBy_38 : decode cX8_tellsBy 38 = .ok (.ireturn, 1) := by decide +kernel
theorem dX8_tellsAt_0 : decode cX8_tellsAt 0 = .ok (.aload_n 0, 1) := by decide +kernel
theorem dX8_tellsAt_1 : decode cX8_tellsAt 1 = .ok (.iload_n 2, 1) := by decide +kernel
theorem dX8_tellsAt_2 : decode cX8_tellsAt 2 = .ok (.iload_n 3, 1) := by decide +kernel
theorem dX8_tellsAt_3 : decode cX8_tellsAt 3 = .ok (.invokevirtual 185, 3) := by decide +kernel
theorem dX8_tellsAt_6 : decode cX8_tellsAt 6 = .ok (.ifCond .ne 7, 3) := by decide +kernel
theorem dX8_tellsAt_9 : decode cX8_tellsAt 9 = .ok (.iconst 2, 1) := by decide +kernel
theorem dX8_tellsAt_10 : decode cX8_tellsAt 10 = .ok (.goto 18, 3) := by decide +kernel
theorem dX8_tellsAt_13 : decode cX8_tellsAt 13 = .ok (.aload_n 0, 1) := by decide +kernel
theorem dX8_tellsAt_14 : decode cX8_tellsAt 14 = .ok (.iload_n 1, 1) := by decide +kernel
theorem dX8_tellsAt_15 : decode cX8_tellsAt 15 = .ok (.iload_n 2, 1) := by decide +kernel
theorem dX8_tellsAt_16 : decode cX8_tellsAt 16 = .ok (.iload_n 3, 1) := by decide +kernel
theorem dX8_tellsAt_17 : decode cX8_tellsAt 17 = .ok (.invokevirtual 188, 3) := by decide +kernel
theorem dX8_tellsAt_20 : decode cX8_tellsAt 20 = .ok (.ifCond .eq 7, 3) := by decide +kernel
theorem dX8_tellsAt_23 : decode cX8_tellsAt 23 = .ok (.iconst 1, 1) := by decide +kernel
theorem dX8_tellsAt_24 : decode cX8_tellsAt 24 = .ok (.goto 4, 3) := by decide +kernel
theorem dX8_tellsAt_27 : decode cX8_tellsAt 27 = .ok (.iconst 0, 1) := by decide +kernel
theorem dX8_tellsAt_28 : decode cX8_tellsAt 28 = .ok (.ireturn, 1) := by decide +kernel
theorem dX8_isWrong_0 : decode cX8_isWrong 0 = .ok (.aload_n 0, 1) := by decide +kernel
theorem dX8_isWrong_1 : decode cX8_isWrong 1 = .ok (.getfield 16, 3) := by decide +kernel
theorem dX8_isWrong_4 : decode cX8_isWrong 4 = .ok (.iload_n 1, 1) := by decide +kernel
theorem dX8_isWrong_5 : decode cX8_isWrong 5 = .ok (.iaload, 1) := by decide +kernel
theorem dX8_isWrong_6 : decode cX8_isWrong 6 = .ok (.iconst 1, 1) := by decide +kernel
theorem dX8_isWrong_7 : decode cX8_isWrong 7 = .ok (.if_icmp .ne 16, 3) := by decide +kernel
theorem dX8_isWrong_10 : decode cX8_isWrong 10 = .ok (.iload_n 2, 1) := by decide +kernel
theorem dX8_isWrong_11 : decode cX8_isWrong 11 = .ok (.iconst 1, 1) := by decide +kernel
theorem dX8_isWrong_12 : decode cX8_isWrong 12 = .ok (.if_icmp .ne 7, 3) := by decide +kernel
theorem dX8_isWrong_15 : decode cX8_isWrong 15 = .ok (.iconst 1, 1) := by decide +kernel
theorem dX8_isWrong_16 : decode cX8_isWrong 16 = .ok (.goto 17, 3) := by decide +kernel
theorem dX8_isWrong_19 : decode cX8_isWrong 19 = .ok (.iconst 0, 1) := by decide +kernel
theorem dX8_isWrong_20 : decode cX8_isWrong 20 = .ok (.goto 13, 3) := by decide +kernel
theorem dX8_isWrong_23 : decode cX8_isWrong 23 = .ok (.iload_n 2, 1) := by decide +kernel
theorem dX8_isWrong_24 : decode cX8_isWrong 24 = .ok (.iconst 1, 1) := by decide +kernel
theorem dX8_isWrong_25 : decode cX8_isWrong 25 = .ok (.if_icmp .eq 7, 3) := by decide +kernel
theorem dX8_isWrong_28 : decode cX8_isWrong 28 = .ok (.iconst 1, 1) := by decide +kernel
theorem dX8_isWrong_29 : decode cX8_isWrong 29 = .ok (.goto 4, 3) := by decide +kernel
theorem dX8_isWrong_32 : decode cX8_isWrong 32 = .ok (.iconst 0, 1) := by decide +kernel
theorem dX8_isWrong_33 : decode cX8_isWrong 33 = .ok (.ireturn, 1) := by decide +kernel
theorem dX8_toldOf_0 : decode cX8_toldOf 0 = .ok (.iload_n 2, 1) := by decide +kernel
theorem dX8_toldOf_1 : decode cX8_toldOf 1 = .ok (.tableswitch 146 0 7 #[47, 54, 61, 68, 84, 96, 116, 137], 47) := by decide +kernel
theorem dX8_toldOf_48 : decode cX8_toldOf 48 = .ok (.aload_n 0, 1) := by decide +kernel
theorem dX8_toldOf_49 : decode cX8_toldOf 49 = .ok (.getfield 13, 3) := by decide +kernel
theorem dX8_toldOf_52 : decode cX8_toldOf 52 = .ok (.iload_n 1, 1) := by decide +kernel
theorem dX8_toldOf_53 : decode cX8_toldOf 53 = .ok (.iaload, 1) := by decide +kernel
theorem dX8_toldOf_54 : decode cX8_toldOf 54 = .ok (.ireturn, 1) := by decide +kernel
theorem dX8_toldOf_55 : decode cX8_toldOf 55 = .ok (.aload_n 0, 1) := by decide +kernel
theorem dX8_toldOf_56 : decode cX8_toldOf 56 = .ok (.getfield 16, 3) := by decide +kernel
theorem dX8_toldOf_59 : decode cX8_toldOf 59 = .ok (.iload_n 1, 1) := by decide +kernel
theorem dX8_toldOf_60 : decode cX8_toldOf 60 = .ok (.iaload, 1) := by decide +kernel
theorem dX8_toldOf_61 : decode cX8_toldOf 61 = .ok (.ireturn, 1) := by decide +kernel
theorem dX8_toldOf_62 : decode cX8_toldOf 62 = .ok (.aload_n 0, 1) := by decide +kernel
theorem dX8_toldOf_63 : decode cX8_toldOf 63 = .ok (.getfield 19, 3) := by decide +kernel
theorem dX8_toldOf_66 : decode cX8_toldOf 66 = .ok (.iload_n 1, 1) := by decide +kernel
theorem dX8_toldOf_67 : decode cX8_toldOf 67 = .ok (.iaload, 1) := by decide +kernel
theorem dX8_toldOf_68 : decode cX8_toldOf 68 = .ok (.ireturn, 1) := by decide +kernel
theorem dX8_toldOf_69 : decode cX8_toldOf 69 = .ok (.aload_n 0, 1) := by decide +kernel
theorem dX8_toldOf_70 : decode cX8_toldOf 70 = .ok (.getfield 13, 3) := by decide +kernel
theorem dX8_toldOf_73 : decode cX8_toldOf 73 = .ok (.iload_n 1, 1) := by decide +kernel
theorem dX8_toldOf_74 : decode cX8_toldOf 74 = .ok (.iaload, 1) := by decide +kernel
theorem dX8_toldOf_75 : decode cX8_toldOf 75 = .ok (.aload_n 0, 1) := by decide +kernel
theorem dX8_toldOf_76 : decode cX8_toldOf 76 = .ok (.getfield 22, 3) := by decide +kernel
theorem dX8_toldOf_79 : decode cX8_toldOf 79 = .ok (.iload_n 1, 1) := by decide +kernel
theorem dX8_toldOf_80 : decode cX8_toldOf 80 = .ok (.iaload, 1) := by decide +kernel
theorem dX8_toldOf_81 : decode cX8_toldOf 81 = .ok (.invokestatic 169, 3) := by decide +kernel
theorem dX8_toldOf_84 : decode cX8_toldOf 84 = .ok (.ireturn, 1) := by decide +kernel
theorem dX8_toldOf_85 : decode cX8_toldOf 85 = .ok (.aload_n 0, 1) := by decide +kernel
theorem dX8_toldOf_86 : decode cX8_toldOf 86 = .ok (.iload_n 1, 1) := by decide +kernel
theorem dX8_toldOf_87 : decode cX8_toldOf 87 = .ok (.aload_n 0, 1) := by decide +kernel
theorem dX8_toldOf_88 : decode cX8_toldOf 88 = .ok (.getfield 7, 3) := by decide +kernel
theorem dX8_toldOf_91 : decode cX8_toldOf 91 = .ok (.iconst 1, 1) := by decide +kernel
theorem dX8_toldOf_92 : decode cX8_toldOf 92 = .ok (.iaload, 1) := by decide +kernel
theorem dX8_toldOf_93 : decode cX8_toldOf 93 = .ok (.invokevirtual 179, 3) := by decide +kernel
theorem dX8_toldOf_96 : decode cX8_toldOf 96 = .ok (.ireturn, 1) := by decide +kernel
theorem dX8_toldOf_97 : decode cX8_toldOf 97 = .ok (.aload_n 0, 1) := by decide +kernel
theorem dX8_toldOf_98 : decode cX8_toldOf 98 = .ok (.iload_n 1, 1) := by decide +kernel
theorem dX8_toldOf_99 : decode cX8_toldOf 99 = .ok (.aload_n 0, 1) := by decide +kernel
theorem dX8_toldOf_100 : decode cX8_toldOf 100 = .ok (.getfield 7, 3) := by decide +kernel
theorem dX8_toldOf_103 : decode cX8_toldOf 103 = .ok (.iconst 1, 1) := by decide +kernel
theorem dX8_toldOf_104 : decode cX8_toldOf 104 = .ok (.iaload, 1) := by decide +kernel
theorem dX8_toldOf_105 : decode cX8_toldOf 105 = .ok (.invokevirtual 185, 3) := by decide +kernel
theorem dX8_toldOf_108 : decode cX8_toldOf 108 = .ok (.ifCond .eq 7, 3) := by decide +kernel
theorem dX8_toldOf_111 : decode cX8_toldOf 111 = .ok (.iconst 1, 1) := by decide +kernel
theorem dX8_toldOf_112 : decode cX8_toldOf 112 = .ok (.goto 4, 3) := by decide +kernel
theorem dX8_toldOf_115 : decode cX8_toldOf 115 = .ok (.iconst 0, 1) := by decide +kernel
theorem dX8_toldOf_116 : decode cX8_toldOf 116 = .ok (.ireturn, 1) := by decide +kernel
theorem dX8_toldOf_117 : decode cX8_toldOf 117 = .ok (.aload_n 0, 1) := by decide +kernel
theorem dX8_toldOf_118 : decode cX8_toldOf 118 = .ok (.iconst 0, 1) := by decide +kernel
theorem dX8_toldOf_119 : decode cX8_toldOf 119 = .ok (.iload_n 1, 1) := by decide +kernel
theorem dX8_toldOf_120 : decode cX8_toldOf 120 = .ok (.aload_n 0, 1) := by decide +kernel
theorem dX8_toldOf_121 : decode cX8_toldOf 121 = .ok (.getfield 7, 3) := by decide +kernel
theorem dX8_toldOf_124 : decode cX8_toldOf 124 = .ok (.iconst 1, 1) := by decide +kernel
theorem dX8_toldOf_125 : decode cX8_toldOf 125 = .ok (.iaload, 1) := by decide +kernel
theorem dX8_toldOf_126 : decode cX8_toldOf 126 = .ok (.invokevirtual 188, 3) := by decide +kernel
theorem dX8_toldOf_129 : decode cX8_toldOf 129 = .ok (.ifCond .eq 7, 3) := by decide +kernel
theorem dX8_toldOf_132 : decode cX8_toldOf 132 = .ok (.iconst 1, 1) := by decide +kernel
theorem dX8_toldOf_133 : decode cX8_toldOf 133 = .ok (.goto 4, 3) := by decide +kernel
theorem dX8_toldOf_136 : decode cX8_toldOf 136 = .ok (.iconst 0, 1) := by decide +kernel
theorem dX8_toldOf_137 : decode cX8_toldOf 137 = .ok (.ireturn, 1) := by decide +kernel
theorem dX8_toldOf_138 : decode cX8_toldOf 138 = .ok (.aload_n 0, 1) := by decide +kernel
theorem dX8_toldOf_139 : decode cX8_toldOf 139 = .ok (.getfield 7, 3) := by decide +kernel
theorem dX8_toldOf_142 : decode cX8_toldOf 142 = .ok (.iconst 5, 1) := by decide +kernel
theorem dX8_toldOf_143 : decode cX8_toldOf 143 = .ok (.iload_n 1, 1) := by decide +kernel
theorem dX8_toldOf_144 : decode cX8_toldOf 144 = .ok (.iadd, 1) := by decide +kernel
theorem dX8_toldOf_145 : decode cX8_toldOf 145 = .ok (.iaload, 1) := by decide +kernel
theorem dX8_toldOf_146 : decode cX8_toldOf 146 = .ok (.ireturn, 1) := by decide +kernel
theorem dX8_toldOf_147 : decode cX8_toldOf 147 = .ok (.aload_n 0, 1) := by decide +kernel
theorem dX8_toldOf_148 : decode cX8_toldOf 148 = .ok (.getfield 7, 3) := by decide +kernel
theorem dX8_toldOf_151 : decode cX8_toldOf 151 = .ok (.bipush 11, 2) := by decide +kernel
theorem dX8_toldOf_153 : decode cX8_toldOf 153 = .ok (.iload_n 1, 1) := by decide +kernel
theorem dX8_toldOf_154 : decode cX8_toldOf 154 = .ok (.iadd, 1) := by decide +kernel
theorem dX8_toldOf_155 : decode cX8_toldOf 155 = .ok (.iaload, 1) := by decide +kernel
theorem dX8_toldOf_156 : decode cX8_toldOf 156 = .ok (.ireturn, 1) := by decide +kernel
theorem dX8_man_0 : decode cX8_man 0 = .ok (.aload_n 0, 1) := by decide +kernel
theorem dX8_man_1 : decode cX8_man 1 = .ok (.iload_n 1, 1) := by decide +kernel
theorem dX8_man_2 : decode cX8_man 2 = .ok (.invokevirtual 191, 3) := by decide +kernel
theorem dX8_man_5 : decode cX8_man 5 = .ok (.ifCond .eq 28, 3) := by decide +kernel
theorem dX8_man_8 : decode cX8_man 8 = .ok (.iload_n 2, 1) := by decide +kernel
theorem dX8_man_9 : decode cX8_man 9 = .ok (.i2l, 1) := by decide +kernel
theorem dX8_man_10 : decode cX8_man 10 = .ok (.lconst 0, 1) := by decide +kernel
theorem dX8_man_11 : decode cX8_man 11 = .ok (.ldc2_w 194, 3) := by decide +kernel
theorem dX8_man_14 : decode cX8_man 14 = .ok (.invokestatic 74, 3) := by decide +kernel
theorem dX8_man_17 : decode cX8_man 17 = .ok (.ifCond .eq 16, 3) := by decide +kernel
theorem dX8_man_20 : decode cX8_man 20 = .ok (.aload_n 0, 1) := by decide +kernel
theorem dX8_man_21 : decode cX8_man 21 = .ok (.aload_n 0, 1) := by decide +kernel
theorem dX8_man_22 : decode cX8_man 22 = .ok (.iload_n 1, 1) := by decide +kernel
theorem dX8_man_23 : decode cX8_man 23 = .ok (.iload_n 2, 1) := by decide +kernel
theorem dX8_man_24 : decode cX8_man 24 = .ok (.invokevirtual 196, 3) := by decide +kernel
theorem dX8_man_27 : decode cX8_man 27 = .ok (.invokevirtual 96, 3) := by decide +kernel
theorem dX8_man_30 : decode cX8_man 30 = .ok (.goto 4, 3) := by decide +kernel
theorem dX8_man_33 : decode cX8_man 33 = .ok (.iconst (-1), 1) := by decide +kernel
theorem dX8_man_34 : decode cX8_man 34 = .ok (.ireturn, 1) := by decide +kernel
theorem dX8_isOf_0 : decode cX8_isOf 0 = .ok (.aload_n 0, 1) := by decide +kernel
theorem dX8_isOf_1 : decode cX8_isOf 1 = .ok (.getfield 13, 3) := by decide +kernel
theorem dX8_isOf_4 : decode cX8_isOf 4 = .ok (.iload_n 1, 1) := by decide +kernel
theorem dX8_isOf_5 : decode cX8_isOf 5 = .ok (.iaload, 1) := by decide +kernel
theorem dX8_isOf_6 : decode cX8_isOf 6 = .ok (.istore_n 3, 1) := by decide +kernel
theorem dX8_isOf_7 : decode cX8_isOf 7 = .ok (.iload_n 3, 1) := by decide +kernel
theorem dX8_isOf_8 : decode cX8_isOf 8 = .ok (.iload_n 2, 1) := by decide +kernel
theorem dX8_isOf_9 : decode cX8_isOf 9 = .ok (.if_icmp .eq 23, 3) := by decide +kernel
theorem dX8_isOf_12 : decode cX8_isOf 12 = .ok (.iload_n 2, 1) := by decide +kernel
theorem dX8_isOf_13 : decode cX8_isOf 13 = .ok (.iconst 1, 1) := by decide +kernel
theorem dX8_isOf_14 : decode cX8_isOf 14 = .ok (.if_icmp .ne 8, 3) := by decide +kernel
theorem dX8_isOf_17 : decode cX8_isOf 17 = .ok (.iload_n 3, 1) := by decide +kernel
theorem dX8_isOf_18 : decode cX8_isOf 18 = .ok (.iconst 4, 1) := by decide +kernel
theorem dX8_isOf_19 : decode cX8_isOf 19 = .ok (.if_icmp .eq 13, 3) := by decide +kernel
theorem dX8_isOf_22 : decode cX8_isOf 22 = .ok (.iload_n 2, 1) := by decide +kernel
theorem dX8_isOf_23 : decode cX8_isOf 23 = .ok (.iconst 2, 1) := by decide +kernel
theorem dX8_isOf_24 : decode cX8_isOf 24 = .ok (.if_icmp .ne 12, 3) := by decide +kernel
theorem dX8_isOf_27 : decode cX8_isOf 27 = .ok (.iload_n 3, 1) := by decide +kernel
theorem dX8_isOf_28 : decode cX8_isOf 28 = .ok (.iconst 5, 1) := by decide +kernel
theorem dX8_isOf_29 : decode cX8_isOf 29 = .ok (.if_icmp .ne 7, 3) := by decide +kernel
theorem dX8_isOf_32 : decode cX8_isOf 32 = .ok (.iconst 1, 1) := by decide +kernel
theorem dX8_isOf_33 : decode cX8_isOf 33 = .ok (.goto 4, 3) := by decide +kernel
theorem dX8_isOf_36 : decode cX8_isOf 36 = .ok (.iconst 0, 1) := by decide +kernel
theorem dX8_isOf_37 : decode cX8_isOf 37 = .ok (.ireturn, 1) := by decide +kernel
theorem dX8_moreHeat_0 : decode cX8_moreHeat 0 = .ok (.aload_n 0, 1) := by decide +kernel
theorem dX8_moreHeat_1 : decode cX8_moreHeat 1 = .ok (.getfield 7, 3) := by decide +kernel
theorem dX8_moreHeat_4 : decode cX8_moreHeat 4 = .ok (.iconst 1, 1) := by decide +kernel
theorem dX8_moreHeat_5 : decode cX8_moreHeat 5 = .ok (.iaload, 1) := by decide +kernel
theorem dX8_moreHeat_6 : decode cX8_moreHeat 6 = .ok (.istore_n 2, 1) := by decide +kernel
theorem dX8_moreHeat_7 : decode cX8_moreHeat 7 = .ok (.iload_n 2, 1) := by decide +kernel
theorem dX8_moreHeat_8 : decode cX8_moreHeat 8 = .ok (.bipush 30, 2) := by decide +kernel
theorem dX8_moreHeat_10 : decode cX8_moreHeat 10 = .ok (.if_icmp .ge 21, 3) := by decide +kernel
theorem dX8_moreHeat_13 : decode cX8_moreHeat 13 = .ok (.aload_n 0, 1) := by decide +kernel
theorem dX8_moreHeat_14 : decode cX8_moreHeat 14 = .ok (.iconst 0, 1) := by decide +kernel
theorem dX8_moreHeat_15 : decode cX8_moreHeat 15 = .ok (.iload_n 1, 1) := by decide +kernel
theorem dX8_moreHeat_16 : decode cX8_moreHeat 16 = .ok (.iload_n 2, 1) := by decide +kernel
theorem dX8_moreHeat_17 : decode cX8_moreHeat 17 = .ok (.iconst 1, 1) := by decide +kernel
theorem dX8_moreHeat_18 : decode cX8_moreHeat 18 = .ok (.iadd, 1) := by decide +kernel
theorem dX8_moreHeat_19 : decode cX8_moreHeat 19 = .ok (.invokevirtual 188, 3) := by decide +kernel
theorem dX8_moreHeat_22 : decode cX8_moreHeat 22 = .ok (.ifCond .eq 9, 3) := by decide +kernel
theorem dX8_moreHeat_25 : decode cX8_moreHeat 25 = .ok (.iinc 2 1, 3) := by decide +kernel
theorem dX8_moreHeat_28 : decode cX8_moreHeat 28 = .ok (.goto (-21), 3) := by decide +kernel
theorem dX8_moreHeat_31 : decode cX8_moreHeat 31 = .ok (.aload_n 0, 1) := by decide +kernel
theorem dX8_moreHeat_32 : decode cX8_moreHeat 32 = .ok (.iconst 0, 1) := by decide +kernel
theorem dX8_moreHeat_33 : decode cX8_moreHeat 33 = .ok (.iload_n 1, 1) := by decide +kernel
theorem dX8_moreHeat_34 : decode cX8_moreHeat 34 = .ok (.aload_n 0, 1) := by decide +kernel
theorem dX8_moreHeat_35 : decode cX8_moreHeat 35 = .ok (.getfield 7, 3) := by decide +kernel
theorem dX8_moreHeat_38 : decode cX8_moreHeat 38 = .ok (.iconst 1, 1) := by decide +kernel
theorem dX8_moreHeat_39 : decode cX8_moreHeat 39 = .ok (.iaload, 1) := by decide +kernel
theorem dX8_moreHeat_40 : decode cX8_moreHeat 40 = .ok (.invokevirtual 188, 3) := by decide +kernel
theorem dX8_moreHeat_43 : decode cX8_moreHeat 43 = .ok (.ifCond .eq 14, 3) := by decide +kernel
theorem dX8_moreHeat_46 : decode cX8_moreHeat 46 = .ok (.iload_n 2, 1) := by decide +kernel
theorem dX8_moreHeat_47 : decode cX8_moreHeat 47 = .ok (.aload_n 0, 1) := by decide +kernel
theorem dX8_moreHeat_48 : decode cX8_moreHeat 48 = .ok (.getfield 7, 3) := by decide +kernel
theorem dX8_moreHeat_51 : decode cX8_moreHeat 51 = .ok (.iconst 1, 1) := by decide +kernel
theorem dX8_moreHeat_52 : decode cX8_moreHeat 52 = .ok (.iaload, 1) := by decide +kernel
theorem dX8_moreHeat_53 : decode cX8_moreHeat 53 = .ok (.isub, 1) := by decide +kernel
theorem dX8_moreHeat_54 : decode cX8_moreHeat 54 = .ok (.goto 4, 3) := by decide +kernel
theorem dX8_moreHeat_57 : decode cX8_moreHeat 57 = .ok (.iconst 0, 1) := by decide +kernel
theorem dX8_moreHeat_58 : decode cX8_moreHeat 58 = .ok (.ireturn, 1) := by decide +kernel
theorem dX8_awayBut_0 : decode cX8_awayBut 0 = .ok (.iconst 0, 1) := by decide +kernel
theorem dX8_awayBut_1 : decode cX8_awayBut 1 = .ok (.istore_n 2, 1) := by decide +kernel
theorem dX8_awayBut_2 : decode cX8_awayBut 2 = .ok (.iconst 0, 1) := by decide +kernel
theorem dX8_awayBut_3 : decode cX8_awayBut 3 = .ok (.istore_n 3, 1) := by decide +kernel
theorem dX8_awayBut_4 : decode cX8_awayBut 4 = .ok (.iload_n 3, 1) := by decide +kernel
theorem dX8_awayBut_5 : decode cX8_awayBut 5 = .ok (.aload_n 0, 1) := by decide +kernel
theorem dX8_awayBut_6 : decode cX8_awayBut 6 = .ok (.getfield 157, 3) := by decide +kernel
theorem dX8_awayBut_9 : decode cX8_awayBut 9 = .ok (.if_icmp .ge 36, 3) := by decide +kernel
theorem dX8_awayBut_12 : decode cX8_awayBut 12 = .ok (.iload_n 2, 1) := by decide +kernel
theorem dX8_awayBut_13 : decode cX8_awayBut 13 = .ok (.iload_n 3, 1) := by decide +kernel
theorem dX8_awayBut_14 : decode cX8_awayBut 14 = .ok (.iload_n 1, 1) := by decide +kernel
theorem dX8_awayBut_15 : decode cX8_awayBut 15 = .ok (.if_icmp .eq 21, 3) := by decide +kernel
theorem dX8_awayBut_18 : decode cX8_awayBut 18 = .ok (.aload_n 0, 1) := by decide +kernel
theorem dX8_awayBut_19 : decode cX8_awayBut 19 = .ok (.iload_n 3, 1) := by decide +kernel
theorem dX8_awayBut_20 : decode cX8_awayBut 20 = .ok (.aload_n 0, 1) := by decide +kernel
theorem dX8_awayBut_21 : decode cX8_awayBut 21 = .ok (.getfield 7, 3) := by decide +kernel
theorem dX8_awayBut_24 : decode cX8_awayBut 24 = .ok (.iconst 1, 1) := by decide +kernel
theorem dX8_awayBut_25 : decode cX8_awayBut 25 = .ok (.iaload, 1) := by decide +kernel
theorem dX8_awayBut_26 : decode cX8_awayBut 26 = .ok (.invokevirtual 185, 3) := by decide +kernel
theorem dX8_awayBut_29 : decode cX8_awayBut 29 = .ok (.ifCond .ne 7, 3) := by decide +kernel
theorem dX8_awayBut_32 : decode cX8_awayBut 32 = .ok (.iconst 1, 1) := by decide +kernel
theorem dX8_awayBut_33 : decode cX8_awayBut 33 = .ok (.goto 4, 3) := by decide +kernel
theorem dX8_awayBut_36 : decode cX8_awayBut 36 = .ok (.iconst 0, 1) := by decide +kernel
theorem dX8_awayBut_37 : decode cX8_awayBut 37 = .ok (.iadd, 1) := by decide +kernel
theorem dX8_awayBut_38 : decode cX8_awayBut 38 = .ok (.istore_n 2, 1) := by decide +kernel
theorem dX8_awayBut_39 : decode cX8_awayBut 39 = .ok (.iinc 3 1, 3) := by decide +kernel
theorem dX8_awayBut_42 : decode cX8_awayBut 42 = .ok (.goto (-38), 3) := by decide +kernel
theorem dX8_awayBut_45 : decode cX8_awayBut 45 = .ok (.iload_n 2, 1) := by decide +kernel
theorem dX8_awayBut_46 : decode cX8_awayBut 46 = .ok (.ireturn, 1) := by decide +kernel
theorem dX8_mark_0 : decode cX8_mark 0 = .ok (.aload_n 0, 1) := by decide +kernel
theorem dX8_mark_1 : decode cX8_mark 1 = .ok (.iload_n 1, 1) := by decide +kernel
theorem dX8_mark_2 : decode cX8_mark 2 = .ok (.invokevirtual 191, 3) := by decide +kernel
theorem dX8_mark_5 : decode cX8_mark 5 = .ok (.ifCond .eq 15, 3) := by decide +kernel
theorem dX8_mark_8 : decode cX8_mark 8 = .ok (.iload_n 2, 1) := by decide +kernel
theorem dX8_mark_9 : decode cX8_mark 9 = .ok (.i2l, 1) := by decide +kernel
theorem dX8_mark_10 : decode cX8_mark 10 = .ok (.lconst 1, 1) := by decide +kernel
theorem dX8_mark_11 : decode cX8_mark 11 = .ok (.ldc2_w 72, 3) := by decide +kernel
theorem dX8_mark_14 : decode cX8_mark 14 = .ok (.invokestatic 74, 3) := by decide +kernel
theorem dX8_mark_17 : decode cX8_mark 17 = .ok (.ifCond .ne 5, 3) := by decide +kernel
theorem dX8_mark_20 : decode cX8_mark 20 = .ok (.iconst (-1), 1) := by decide +kernel
theorem dX8_mark_21 : decode cX8_mark 21 = .ok (.ireturn, 1) := by decide +kernel
theorem dX8_mark_22 : decode cX8_mark 22 = .ok (.aload_n 0, 1) := by decide +kernel
theorem dX8_mark_23 : decode cX8_mark 23 = .ok (.iload_n 1, 1) := by decide +kernel
theorem dX8_mark_24 : decode cX8_mark 24 = .ok (.iload_n 2, 1) := by decide +kernel
theorem dX8_mark_25 : decode cX8_mark 25 = .ok (.invokevirtual 199, 3) := by decide +kernel
theorem dX8_mark_28 : decode cX8_mark 28 = .ok (.ifCond .ne 9, 3) := by decide +kernel
theorem dX8_mark_31 : decode cX8_mark 31 = .ok (.aload_n 0, 1) := by decide +kernel
theorem dX8_mark_32 : decode cX8_mark 32 = .ok (.iconst 3, 1) := by decide +kernel
theorem dX8_mark_33 : decode cX8_mark 33 = .ok (.invokevirtual 84, 3) := by decide +kernel
theorem dX8_mark_36 : decode cX8_mark 36 = .ok (.ireturn, 1) := by decide +kernel
theorem dX8_mark_37 : decode cX8_mark 37 = .ok (.iload_n 2, 1) := by decide +kernel
theorem dX8_mark_38 : decode cX8_mark 38 = .ok (.tableswitch 71 1 4 #[30, 36, 52, 65], 30) := by decide +kernel
theorem dX8_mark_68 : decode cX8_mark 68 = .ok (.aload_n 0, 1) := by decide +kernel
theorem dX8_mark_69 : decode cX8_mark 69 = .ok (.iload_n 1, 1) := by decide +kernel
theorem dX8_mark_70 : decode cX8_mark 70 = .ok (.invokevirtual 202, 3) := by decide +kernel
theorem dX8_mark_73 : decode cX8_mark 73 = .ok (.ireturn, 1) := by decide +kernel
theorem dX8_mark_74 : decode cX8_mark 74 = .ok (.aload_n 0, 1) := by decide +kernel
theorem dX8_mark_75 : decode cX8_mark 75 = .ok (.getfield 22, 3) := by decide +kernel
theorem dX8_mark_78 : decode cX8_mark 78 = .ok (.iload_n 1, 1) := by decide +kernel
theorem dX8_mark_79 : decode cX8_mark 79 = .ok (.iaload, 1) := by decide +kernel
theorem dX8_mark_80 : decode cX8_mark 80 = .ok (.aload_n 0, 1) := by decide +kernel
theorem dX8_mark_81 : decode cX8_mark 81 = .ok (.getfield 22, 3) := by decide +kernel
theorem dX8_mark_84 : decode cX8_mark 84 = .ok (.iload_n 1, 1) := by decide +kernel
theorem dX8_mark_85 : decode cX8_mark 85 = .ok (.iaload, 1) := by decide +kernel
theorem dX8_mark_86 : decode cX8_mark 86 = .ok (.iconst 2, 1) := by decide +kernel
theorem dX8_mark_87 : decode cX8_mark 87 = .ok (.idiv, 1) := by decide +kernel
theorem dX8_mark_88 : decode cX8_mark 88 = .ok (.isub, 1) := by decide +kernel
theorem dX8_mark_89 : decode cX8_mark 89 = .ok (.ireturn, 1) := by decide +kernel
theorem dX8_mark_90 : decode cX8_mark 90 = .ok (.aload_n 0, 1) := by decide +kernel
theorem dX8_mark_91 : decode cX8_mark 91 = .ok (.getfield 7, 3) := by decide +kernel
theorem dX8_mark_94 : decode cX8_mark 94 = .ok (.iconst 1, 1) := by decide +kernel
theorem dX8_mark_95 : decode cX8_mark 95 = .ok (.iaload, 1) := by decide +kernel
theorem dX8_mark_96 : decode cX8_mark 96 = .ok (.bipush 10, 2) := by decide +kernel
theorem dX8_mark_98 : decode cX8_mark 98 = .ok (.isub, 1) := by decide +kernel
theorem dX8_mark_99 : decode cX8_mark 99 = .ok (.invokestatic 163, 3) := by decide +kernel
theorem dX8_mark_102 : decode cX8_mark 102 = .ok (.ireturn, 1) := by decide +kernel
theorem dX8_mark_103 : decode cX8_mark 103 = .ok (.aload_n 0, 1) := by decide +kernel
theorem dX8_mark_104 : decode cX8_mark 104 = .ok (.iload_n 1, 1) := by decide +kernel
theorem dX8_mark_105 : decode cX8_mark 105 = .ok (.invokevirtual 205, 3) := by decide +kernel
theorem dX8_mark_108 : decode cX8_mark 108 = .ok (.ireturn, 1) := by decide +kernel
theorem dX8_mark_109 : decode cX8_mark 109 = .ok (.aload_n 0, 1) := by decide +kernel
theorem dX8_mark_110 : decode cX8_mark 110 = .ok (.iload_n 1, 1) := by decide +kernel
theorem dX8_mark_111 : decode cX8_mark 111 = .ok (.aload_n 0, 1) := by decide +kernel
theorem dX8_mark_112 : decode cX8_mark 112 = .ok (.getfield 7, 3) := by decide +kernel
theorem dX8_mark_115 : decode cX8_mark 115 = .ok (.iconst 1, 1) := by decide +kernel
theorem dX8_mark_116 : decode cX8_mark 116 = .ok (.iaload, 1) := by decide +kernel
theorem dX8_mark_117 : decode cX8_mark 117 = .ok (.invokevirtual 166, 3) := by decide +kernel
theorem dX8_mark_120 : decode cX8_mark 120 = .ok (.aload_n 0, 1) := by decide +kernel
theorem dX8_mark_121 : decode cX8_mark 121 = .ok (.iload_n 1, 1) := by decide +kernel
theorem dX8_mark_122 : decode cX8_mark 122 = .ok (.aload_n 0, 1) := by decide +kernel
theorem dX8_mark_123 : decode cX8_mark 123 = .ok (.getfield 7, 3) := by decide +kernel
theorem dX8_mark_126 : decode cX8_mark 126 = .ok (.iconst 1, 1) := by decide +kernel
theorem dX8_mark_127 : decode cX8_mark 127 = .ok (.iaload, 1) := by decide +kernel
theorem dX8_mark_128 : decode cX8_mark 128 = .ok (.invokevirtual 166, 3) := by decide +kernel
theorem dX8_mark_131 : decode cX8_mark 131 = .ok (.iconst 2, 1) := by decide +kernel
theorem dX8_mark_132 : decode cX8_mark 132 = .ok (.idiv, 1) := by decide +kernel
theorem dX8_mark_133 : decode cX8_mark 133 = .ok (.isub, 1) := by decide +kernel
theorem dX8_mark_134 : decode cX8_mark 134 = .ok (.ireturn, 1) := by decide +kernel
theorem dX8_keepPast_0 : decode cX8_keepPast 0 = .ok (.iconst 0, 1) := by decide +kernel
theorem dX8_keepPast_1 : decode cX8_keepPast 1 = .ok (.istore_n 1, 1) := by decide +kernel
theorem dX8_keepPast_2 : decode cX8_keepPast 2 = .ok (.iload_n 1, 1) := by decide +kernel
theorem dX8_keepPast_3 : decode cX8_keepPast 3 = .ok (.bipush 16, 2) := by decide +kernel
theorem dX8_keepPast_5 : decode cX8_keepPast 5 = .ok (.if_icmp .ge 36, 3) := by decide +kernel
theorem dX8_keepPast_8 : decode cX8_keepPast 8 = .ok (.aload_n 0, 1) := by decide +kernel
theorem dX8_keepPast_9 : decode cX8_keepPast 9 = .ok (.getfield 7, 3) := by decide +kernel
theorem dX8_keepPast_12 : decode cX8_keepPast 12 = .ok (.bipush 17, 2) := by decide +kernel
theorem dX8_keepPast_14 : decode cX8_keepPast 14 = .ok (.bipush 16, 2) := by decide +kernel
theorem dX8_keepPast_16 : decode cX8_keepPast 16 = .ok (.aload_n 0, 1) := by decide +kernel
theorem dX8_keepPast_17 : decode cX8_keepPast 17 = .ok (.getfield 7, 3) := by decide +kernel
theorem dX8_keepPast_20 : decode cX8_keepPast 20 = .ok (.iconst 0, 1) := by decide +kernel
theorem dX8_keepPast_21 : decode cX8_keepPast 21 = .ok (.iaload, 1) := by decide +kernel
theorem dX8_keepPast_22 : decode cX8_keepPast 22 = .ok (.imul, 1) := by decide +kernel
theorem dX8_keepPast_23 : decode cX8_keepPast 23 = .ok (.iadd, 1) := by decide +kernel
theorem dX8_keepPast_24 : decode cX8_keepPast 24 = .ok (.iload_n 1, 1) := by decide +kernel
theorem dX8_keepPast_25 : decode cX8_keepPast 25 = .ok (.iadd, 1) := by decide +kernel
theorem dX8_keepPast_26 : decode cX8_keepPast 26 = .ok (.aload_n 0, 1) := by decide +kernel
theorem dX8_keepPast_27 : decode cX8_keepPast 27 = .ok (.getfield 7, 3) := by decide +kernel
theorem dX8_keepPast_30 : decode cX8_keepPast 30 = .ok (.iconst 1, 1) := by decide +kernel
theorem dX8_keepPast_31 : decode cX8_keepPast 31 = .ok (.iload_n 1, 1) := by decide +kernel
theorem dX8_keepPast_32 : decode cX8_keepPast 32 = .ok (.iadd, 1) := by decide +kernel
theorem dX8_keepPast_33 : decode cX8_keepPast 33 = .ok (.iaload, 1) := by decide +kernel
theorem dX8_keepPast_34 : decode cX8_keepPast 34 = .ok (.iastore, 1) := by decide +kernel
theorem dX8_keepPast_35 : decode cX8_keepPast 35 = .ok (.iinc 1 1, 3) := by decide +kernel
theorem dX8_keepPast_38 : decode cX8_keepPast 38 = .ok (.goto (-36), 3) := by decide +kernel
theorem dX8_keepPast_41 : decode cX8_keepPast 41 = .ok (.aload_n 0, 1) := by decide +kernel
theorem dX8_keepPast_42 : decode cX8_keepPast 42 = .ok (.getfield 7, 3) := by decide +kernel
theorem dX8_keepPast_45 : decode cX8_keepPast 45 = .ok (.iconst 0, 1) := by decide +kernel
theorem dX8_keepPast_46 : decode cX8_keepPast 46 = .ok (.dup2, 1) := by decide +kernel
theorem dX8_keepPast_47 : decode cX8_keepPast 47 = .ok (.iaload, 1) := by decide +kernel
theorem dX8_keepPast_48 : decode cX8_keepPast 48 = .ok (.iconst 1, 1) := by decide +kernel
theorem dX8_keepPast_49 : decode cX8_keepPast 49 = .ok (.iadd, 1) := by decide +kernel
theorem dX8_keepPast_50 : decode cX8_keepPast 50 = .ok (.iastore, 1) := by decide +kernel
theorem dX8_keepPast_51 : decode cX8_keepPast 51 = .ok (.return_, 1) := by decide +kernel
theorem dX8_heatOf_0 : decode cX8_heatOf 0 = .ok (.iload_n 0, 1) := by decide +kernel
theorem dX8_heatOf_1 : decode cX8_heatOf 1 = .ok (.ifCond .ge 7, 3) := by decide +kernel
theorem dX8_heatOf_4 : decode cX8_heatOf 4 = .ok (.iconst 0, 1) := by decide +kernel
theorem dX8_heatOf_5 : decode cX8_heatOf 5 = .ok (.goto 15, 3) := by decide +kernel
theorem dX8_heatOf_8 : decode cX8_heatOf 8 = .ok (.iload_n 0, 1) := by decide +kernel
theorem dX8_heatOf_9 : decode cX8_heatOf 9 = .ok (.bipush 30, 2) := by decide +kernel
theorem dX8_heatOf_11 : decode cX8_heatOf 11 = .ok (.if_icmp .le 8, 3) := by decide +kernel
theorem dX8_heatOf_14 : decode cX8_heatOf 14 = .ok (.bipush 30, 2) := by decide +kernel
theorem dX8_heatOf_16 : decode cX8_heatOf 16 = .ok (.goto 4, 3) := by decide +kernel
theorem dX8_heatOf_19 : decode cX8_heatOf 19 = .ok (.iload_n 0, 1) := by decide +kernel
theorem dX8_heatOf_20 : decode cX8_heatOf 20 = .ok (.ireturn, 1) := by decide +kernel
theorem dX8_heat_0 : decode cX8_heat 0 = .ok (.iload_n 1, 1) := by decide +kernel
theorem dX8_heat_1 : decode cX8_heat 1 = .ok (.i2l, 1) := by decide +kernel
theorem dX8_heat_2 : decode cX8_heat 2 = .ok (.ldc2_w 208, 3) := by decide +kernel
theorem dX8_heat_5 : decode cX8_heat 5 = .ok (.ldc2_w 72, 3) := by decide +kernel
theorem dX8_heat_8 : decode cX8_heat 8 = .ok (.invokestatic 74, 3) := by decide +kernel
theorem dX8_heat_11 : decode cX8_heat 11 = .ok (.ifCond .eq 7, 3) := by decide +kernel
theorem dX8_heat_14 : decode cX8_heat 14 = .ok (.iload_n 1, 1) := by decide +kernel
theorem dX8_heat_15 : decode cX8_heat 15 = .ok (.ifCond .ne 5, 3) := by decide +kernel
theorem dX8_heat_18 : decode cX8_heat 18 = .ok (.iconst (-1), 1) := by decide +kernel
theorem dX8_heat_19 : decode cX8_heat 19 = .ok (.ireturn, 1) := by decide +kernel
theorem dX8_heat_20 : decode cX8_heat 20 = .ok (.aload_n 0, 1) := by decide +kernel
theorem dX8_heat_21 : decode cX8_heat 21 = .ok (.getfield 157, 3) := by decide +kernel
theorem dX8_heat_24 : decode cX8_heat 24 = .ok (.ifCond .ne 6, 3) := by decide +kernel
theorem dX8_heat_27 : decode cX8_heat 27 = .ok (.bipush (-4), 2) := by decide +kernel
theorem dX8_heat_29 : decode cX8_heat 29 = .ok (.ireturn, 1) := by decide +kernel
theorem dX8_heat_30 : decode cX8_heat 30 = .ok (.aload_n 0, 1) := by decide +kernel
theorem dX8_heat_31 : decode cX8_heat 31 = .ok (.getfield 7, 3) := by decide +kernel
theorem dX8_heat_34 : decode cX8_heat 34 = .ok (.iconst 0, 1) := by decide +kernel
theorem dX8_heat_35 : decode cX8_heat 35 = .ok (.iaload, 1) := by decide +kernel
theorem dX8_heat_36 : decode cX8_heat 36 = .ok (.bipush 40, 2) := by decide +kernel
theorem dX8_heat_38 : decode cX8_heat 38 = .ok (.if_icmp .ne 6, 3) := by decide +kernel
theorem dX8_heat_41 : decode cX8_heat 41 = .ok (.bipush (-2), 2) := by decide +kernel
theorem dX8_heat_43 : decode cX8_heat 43 = .ok (.ireturn, 1) := by decide +kernel
theorem dX8_heat_44 : decode cX8_heat 44 = .ok (.aload_n 0, 1) := by decide +kernel
theorem dX8_heat_45 : decode cX8_heat 45 = .ok (.invokevirtual 210, 3) := by decide +kernel
theorem dX8_heat_48 : decode cX8_heat 48 = .ok (.aload_n 0, 1) := by decide +kernel
theorem dX8_heat_49 : decode cX8_heat 49 = .ok (.getfield 7, 3) := by decide +kernel
theorem dX8_heat_52 : decode cX8_heat 52 = .ok (.iconst 1, 1) := by decide +kernel
theorem dX8_heat_53 : decode cX8_heat 53 = .ok (.aload_n 0, 1) := by decide +kernel
theorem dX8_heat_54 : decode cX8_heat 54 = .ok (.getfield 7, 3) := by decide +kernel
theorem dX8_heat_57 : decode cX8_heat 57 = .ok (.iconst 1, 1) := by decide +kernel
theorem dX8_heat_58 : decode cX8_heat 58 = .ok (.iaload, 1) := by decide +kernel
theorem dX8_heat_59 : decode cX8_heat 59 = .ok (.iload_n 1, 1) := by decide +kernel
theorem dX8_heat_60 : decode cX8_heat 60 = .ok (.iadd, 1) := by decide +kernel
theorem dX8_heat_61 : decode cX8_heat 61 = .ok (.invokestatic 213, 3) := by decide +kernel
theorem dX8_heat_64 : decode cX8_heat 64 = .ok (.iastore, 1) := by decide +kernel
theorem dX8_heat_65 : decode cX8_heat 65 = .ok (.aload_n 0, 1) := by decide +kernel
theorem dX8_heat_66 : decode cX8_heat 66 = .ok (.getfield 7, 3) := by decide +kernel
theorem dX8_heat_69 : decode cX8_heat 69 = .ok (.iconst 1, 1) := by decide +kernel
theorem dX8_heat_70 : decode cX8_heat 70 = .ok (.iaload, 1) := by decide +kernel
theorem dX8_heat_71 : decode cX8_heat 71 = .ok (.ireturn, 1) := by decide +kernel
theorem dX8_isDone_0 : decode cX8_isDone 0 = .ok (.aload_n 0, 1) := by decide +kernel
theorem dX8_isDone_1 : decode cX8_isDone 1 = .ok (.getfield 7, 3) := by decide +kernel
theorem dX8_isDone_4 : decode cX8_isDone 4 = .ok (.iconst 2, 1) := by decide +kernel
theorem dX8_isDone_5 : decode cX8_isDone 5 = .ok (.iaload, 1) := by decide +kernel
theorem dX8_isDone_6 : decode cX8_isDone 6 = .ok (.iload_n 1, 1) := by decide +kernel
theorem dX8_isDone_7 : decode cX8_isDone 7 = .ok (.invokestatic 216, 3) := by decide +kernel
theorem dX8_isDone_10 : decode cX8_isDone 10 = .ok (.ireturn, 1) := by decide +kernel
theorem dX8_salve_0 : decode cX8_salve 0 = .ok (.aload_n 0, 1) := by decide +kernel
theorem dX8_salve_1 : decode cX8_salve 1 = .ok (.iload_n 1, 1) := by decide +kernel
theorem dX8_salve_2 : decode cX8_salve 2 = .ok (.invokevirtual 191, 3) := by decide +kernel
theorem dX8_salve_5 : decode cX8_salve 5 = .ok (.ifCond .ne 5, 3) := by decide +kernel
theorem dX8_salve_8 : decode cX8_salve 8 = .ok (.iconst (-1), 1) := by decide +kernel
theorem dX8_salve_9 : decode cX8_salve 9 = .ok (.ireturn, 1) := by decide +kernel
theorem dX8_salve_10 : decode cX8_salve 10 = .ok (.aload_n 0, 1) := by decide +kernel
theorem dX8_salve_11 : decode cX8_salve 11 = .ok (.getfield 7, 3) := by decide +kernel
theorem dX8_salve_14 : decode cX8_salve 14 = .ok (.iconst 5, 1) := by decide +kernel
theorem dX8_salve_15 : decode cX8_salve 15 = .ok (.iload_n 1, 1) := by decide +kernel
theorem dX8_salve_16 : decode cX8_salve 16 = .ok (.iadd, 1) := by decide +kernel
theorem dX8_salve_17 : decode cX8_salve 17 = .ok (.iaload, 1) := by decide +kernel
theorem dX8_salve_18 : decode cX8_salve 18 = .ok (.iconst 3, 1) := by decide +kernel
theorem dX8_salve_19 : decode cX8_salve 19 = .ok (.if_icmp .eq 11, 3) := by decide +kernel
theorem dX8_salve_22 : decode cX8_salve 22 = .ok (.aload_n 0, 1) := by decide +kernel
theorem dX8_salve_23 : decode cX8_salve 23 = .ok (.iload_n 1, 1) := by decide +kernel
theorem dX8_salve_24 : decode cX8_salve 24 = .ok (.invokevirtual 219, 3) := by decide +kernel
theorem dX8_salve_27 : decode cX8_salve 27 = .ok (.ifCond .eq 6, 3) := by decide +kernel
theorem dX8_salve_30 : decode cX8_salve 30 = .ok (.bipush (-4), 2) := by decide +kernel
theorem dX8_salve_32 : decode cX8_salve 32 = .ok (.ireturn, 1) := by decide +kernel
theorem dX8_salve_33 : decode cX8_salve 33 = .ok (.aload_n 0, 1) := by decide +kernel
theorem dX8_salve_34 : decode cX8_salve 34 = .ok (.getfield 7, 3) := by decide +kernel
theorem dX8_salve_37 : decode cX8_salve 37 = .ok (.iconst 0, 1) := by decide +kernel
theorem dX8_salve_38 : decode cX8_salve 38 = .ok (.iaload, 1) := by decide +kernel
theorem dX8_salve_39 : decode cX8_salve 39 = .ok (.bipush 40, 2) := by decide +kernel
theorem dX8_salve_41 : decode cX8_salve 41 = .ok (.if_icmp .ne 6, 3) := by decide +kernel
theorem dX8_salve_44 : decode cX8_salve 44 = .ok (.bipush (-2), 2) := by decide +kernel
theorem dX8_salve_46 : decode cX8_salve 46 = .ok (.ireturn, 1) := by decide +kernel
theorem dX8_salve_47 : decode cX8_salve 47 = .ok (.aload_n 0, 1) := by decide +kernel
theorem dX8_salve_48 : decode cX8_salve 48 = .ok (.invokevirtual 210, 3) := by decide +kernel
theorem dX8_salve_51 : decode cX8_salve 51 = .ok (.aload_n 0, 1) := by decide +kernel
theorem dX8_salve_52 : decode cX8_salve 52 = .ok (.getfield 7, 3) := by decide +kernel
theorem dX8_salve_55 : decode cX8_salve 55 = .ok (.iconst 5, 1) := by decide +kernel
theorem dX8_salve_56 : decode cX8_salve 56 = .ok (.iload_n 1, 1) := by decide +kernel
theorem dX8_salve_57 : decode cX8_salve 57 = .ok (.iadd, 1) := by decide +kernel
theorem dX8_salve_58 : decode cX8_salve 58 = .ok (.dup2, 1) := by decide +kernel
theorem dX8_salve_59 : decode cX8_salve 59 = .ok (.iaload, 1) := by decide +kernel
theorem dX8_salve_60 : decode cX8_salve 60 = .ok (.iconst 1, 1) := by decide +kernel
theorem dX8_salve_61 : decode cX8_salve 61 = .ok (.iadd, 1) := by decide +kernel
theorem dX8_salve_62 : decode cX8_salve 62 = .ok (.iastore, 1) := by decide +kernel
theorem dX8_salve_63 : decode cX8_salve 63 = .ok (.aload_n 0, 1) := by decide +kernel
theorem dX8_salve_64 : decode cX8_salve 64 = .ok (.getfield 7, 3) := by decide +kernel
theorem dX8_salve_67 : decode cX8_salve 67 = .ok (.iconst 5, 1) := by decide +kernel
theorem dX8_salve_68 : decode cX8_salve 68 = .ok (.iload_n 1, 1) := by decide +kernel
theorem dX8_salve_69 : decode cX8_salve 69 = .ok (.iadd, 1) := by decide +kernel
theorem dX8_salve_70 : decode cX8_salve 70 = .ok (.iaload, 1) := by decide +kernel
theorem dX8_salve_71 : decode cX8_salve 71 = .ok (.ireturn, 1) := by decide +kernel
theorem dX8_tryAt_0 : decode cX8_tryAt 0 = .ok (.aload_n 0, 1) := by decide +kernel
theorem dX8_tryAt_1 : decode cX8_tryAt 1 = .ok (.iload_n 1, 1) := by decide +kernel
theorem dX8_tryAt_2 : decode cX8_tryAt 2 = .ok (.iload_n 2, 1) := by decide +kernel
theorem dX8_tryAt_3 : decode cX8_tryAt 3 = .ok (.aload_n 0, 1) := by decide +kernel
theorem dX8_tryAt_4 : decode cX8_tryAt 4 = .ok (.getfield 7, 3) := by decide +kernel
theorem dX8_tryAt_7 : decode cX8_tryAt 7 = .ok (.iload_n 1, 1) := by decide +kernel
theorem dX8_tryAt_8 : decode cX8_tryAt 8 = .ok (.iconst 1, 1) := by decide +kernel
theorem dX8_tryAt_9 : decode cX8_tryAt 9 = .ok (.iadd, 1) := by decide +kernel
theorem dX8_tryAt_10 : decode cX8_tryAt 10 = .ok (.iaload, 1) := by decide +kernel
theorem dX8_tryAt_11 : decode cX8_tryAt 11 = .ok (.invokevirtual 222, 3) := by decide +kernel
theorem dX8_tryAt_14 : decode cX8_tryAt 14 = .ok (.istore_n 3, 1) := by decide +kernel
theorem dX8_tryAt_15 : decode cX8_tryAt 15 = .ok (.aload_n 0, 1) := by decide +kernel
theorem dX8_tryAt_16 : decode cX8_tryAt 16 = .ok (.getfield 7, 3) := by decide +kernel
theorem dX8_tryAt_19 : decode cX8_tryAt 19 = .ok (.iload_n 1, 1) := by decide +kernel
theorem dX8_tryAt_20 : decode cX8_tryAt 20 = .ok (.iconst 2, 1) := by decide +kernel
theorem dX8_tryAt_21 : decode cX8_tryAt 21 = .ok (.iadd, 1) := by decide +kernel
theorem dX8_tryAt_22 : decode cX8_tryAt 22 = .ok (.dup2, 1) := by decide +kernel
theorem dX8_tryAt_23 : decode cX8_tryAt 23 = .ok (.iaload, 1) := by decide +kernel
theorem dX8_tryAt_24 : decode cX8_tryAt 24 = .ok (.iconst 1, 1) := by decide +kernel
theorem dX8_tryAt_25 : decode cX8_tryAt 25 = .ok (.iload_n 2, 1) := by decide +kernel
theorem dX8_tryAt_26 : decode cX8_tryAt 26 = .ok (.ishl, 1) := by decide +kernel
theorem dX8_tryAt_27 : decode cX8_tryAt 27 = .ok (.ior, 1) := by decide +kernel
theorem dX8_tryAt_28 : decode cX8_tryAt 28 = .ok (.iastore, 1) := by decide +kernel
theorem dX8_tryAt_29 : decode cX8_tryAt 29 = .ok (.aload_n 0, 1) := by decide +kernel
theorem dX8_tryAt_30 : decode cX8_tryAt 30 = .ok (.getfield 7, 3) := by decide +kernel
theorem dX8_tryAt_33 : decode cX8_tryAt 33 = .ok (.iload_n 1, 1) := by decide +kernel
theorem dX8_tryAt_34 : decode cX8_tryAt 34 = .ok (.bipush 11, 2) := by decide +kernel
theorem dX8_tryAt_36 : decode cX8_tryAt 36 = .ok (.iadd, 1) := by decide +kernel
theorem dX8_tryAt_37 : decode cX8_tryAt 37 = .ok (.iload_n 2, 1) := by decide +kernel
theorem dX8_tryAt_38 : decode cX8_tryAt 38 = .ok (.iadd, 1) := by decide +kernel
theorem dX8_tryAt_39 : decode cX8_tryAt 39 = .ok (.iload_n 3, 1) := by decide +kernel
theorem dX8_tryAt_40 : decode cX8_tryAt 40 = .ok (.iastore, 1) := by decide +kernel
theorem dX8_tryAt_41 : decode cX8_tryAt 41 = .ok (.aload_n 0, 1) := by decide +kernel
theorem dX8_tryAt_42 : decode cX8_tryAt 42 = .ok (.getfield 7, 3) := by decide +kernel
theorem dX8_tryAt_45 : decode cX8_tryAt 45 = .ok (.iload_n 1, 1) := by decide +kernel
theorem dX8_tryAt_46 : decode cX8_tryAt 46 = .ok (.iconst 4, 1) := by decide +kernel
theorem dX8_tryAt_47 : decode cX8_tryAt 47 = .ok (.iadd, 1) := by decide +kernel
theorem dX8_tryAt_48 : decode cX8_tryAt 48 = .ok (.dup2, 1) := by decide +kernel
theorem dX8_tryAt_49 : decode cX8_tryAt 49 = .ok (.iaload, 1) := by decide +kernel
theorem dX8_tryAt_50 : decode cX8_tryAt 50 = .ok (.aload_n 0, 1) := by decide +kernel
theorem dX8_tryAt_51 : decode cX8_tryAt 51 = .ok (.iload_n 2, 1) := by decide +kernel
theorem dX8_tryAt_52 : decode cX8_tryAt 52 = .ok (.iload_n 3, 1) := by decide +kernel
theorem dX8_tryAt_53 : decode cX8_tryAt 53 = .ok (.invokevirtual 226, 3) := by decide +kernel
theorem dX8_tryAt_56 : decode cX8_tryAt 56 = .ok (.ifCond .eq 7, 3) := by decide +kernel
theorem dX8_tryAt_59 : decode cX8_tryAt 59 = .ok (.iconst 1, 1) := by decide +kernel
theorem dX8_tryAt_60 : decode cX8_tryAt 60 = .ok (.goto 4, 3) := by decide +kernel
theorem dX8_tryAt_63 : decode cX8_tryAt 63 = .ok (.iconst 0, 1) := by decide +kernel
theorem dX8_tryAt_64 : decode cX8_tryAt 64 = .ok (.iadd, 1) := by decide +kernel
theorem dX8_tryAt_65 : decode cX8_tryAt 65 = .ok (.iastore, 1) := by decide +kernel
theorem dX8_tryAt_66 : decode cX8_tryAt 66 = .ok (.iload_n 3, 1) := by decide +kernel
theorem dX8_tryAt_67 : decode cX8_tryAt 67 = .ok (.iconst 1, 1) := by decide +kernel
theorem dX8_tryAt_68 : decode cX8_tryAt 68 = .ok (.if_icmp .ne 55, 3) := by decide +kernel
theorem dX8_tryAt_71 : decode cX8_tryAt 71 = .ok (.aload_n 0, 1) := by decide +kernel
theorem dX8_tryAt_72 : decode cX8_tryAt 72 = .ok (.getfield 7, 3) := by decide +kernel
theorem dX8_tryAt_75 : decode cX8_tryAt 75 = .ok (.iload_n 1, 1) := by decide +kernel
theorem dX8_tryAt_76 : decode cX8_tryAt 76 = .ok (.iconst 3, 1) := by decide +kernel
theorem dX8_tryAt_77 : decode cX8_tryAt 77 = .ok (.iadd, 1) := by decide +kernel
theorem dX8_tryAt_78 : decode cX8_tryAt 78 = .ok (.dup2, 1) := by decide +kernel
theorem dX8_tryAt_79 : decode cX8_tryAt 79 = .ok (.iaload, 1) := by decide +kernel
theorem dX8_tryAt_80 : decode cX8_tryAt 80 = .ok (.iconst 1, 1) := by decide +kernel
theorem dX8_tryAt_81 : decode cX8_tryAt 81 = .ok (.iadd, 1) := by decide +kernel
theorem dX8_tryAt_82 : decode cX8_tryAt 82 = .ok (.iastore, 1) := by decide +kernel
theorem dX8_tryAt_83 : decode cX8_tryAt 83 = .ok (.aload_n 0, 1) := by decide +kernel
theorem dX8_tryAt_84 : decode cX8_tryAt 84 = .ok (.getfield 7, 3) := by decide +kernel
theorem dX8_tryAt_87 : decode cX8_tryAt 87 = .ok (.iload_n 1, 1) := by decide +kernel
theorem dX8_tryAt_88 : decode cX8_tryAt 88 = .ok (.iconst 1, 1) := by decide +kernel
theorem dX8_tryAt_89 : decode cX8_tryAt 89 = .ok (.iadd, 1) := by decide +kernel
theorem dX8_tryAt_90 : decode cX8_tryAt 90 = .ok (.aload_n 0, 1) := by decide +kernel
theorem dX8_tryAt_91 : decode cX8_tryAt 91 = .ok (.getfield 7, 3) := by decide +kernel
theorem dX8_tryAt_94 : decode cX8_tryAt 94 = .ok (.iload_n 1, 1) := by decide +kernel
theorem dX8_tryAt_95 : decode cX8_tryAt 95 = .ok (.iconst 1, 1) := by decide +kernel
theorem dX8_tryAt_96 : decode cX8_tryAt 96 = .ok (.iadd, 1) := by decide +kernel
theorem dX8_tryAt_97 : decode cX8_tryAt 97 = .ok (.iaload, 1) := by decide +kernel
theorem dX8_tryAt_98 : decode cX8_tryAt 98 = .ok (.aload_n 0, 1) := by decide +kernel
theorem dX8_tryAt_99 : decode cX8_tryAt 99 = .ok (.getfield 7, 3) := by decide +kernel
theorem dX8_tryAt_102 : decode cX8_tryAt 102 = .ok (.iload_n 1, 1) := by decide +kernel
theorem dX8_tryAt_103 : decode cX8_tryAt 103 = .ok (.iconst 3, 1) := by decide +kernel
theorem dX8_tryAt_104 : decode cX8_tryAt 104 = .ok (.iadd, 1) := by decide +kernel
theorem dX8_tryAt_105 : decode cX8_tryAt 105 = .ok (.iaload, 1) := by decide +kernel
theorem dX8_tryAt_106 : decode cX8_tryAt 106 = .ok (.aload_n 0, 1) := by decide +kernel
theorem dX8_tryAt_107 : decode cX8_tryAt 107 = .ok (.getfield 154, 3) := by decide +kernel
theorem dX8_tryAt_110 : decode cX8_tryAt 110 = .ok (.if_icmp .lt 7, 3) := by decide +kernel
theorem dX8_tryAt_113 : decode cX8_tryAt 113 = .ok (.iconst 5, 1) := by decide +kernel
theorem dX8_tryAt_114 : decode cX8_tryAt 114 = .ok (.goto 4, 3) := by decide +kernel
theorem dX8_tryAt_117 : decode cX8_tryAt 117 = .ok (.iconst 0, 1) := by decide +kernel
theorem dX8_tryAt_118 : decode cX8_tryAt 118 = .ok (.iadd, 1) := by decide +kernel
theorem dX8_tryAt_119 : decode cX8_tryAt 119 = .ok (.invokestatic 213, 3) := by decide +kernel
theorem dX8_tryAt_122 : decode cX8_tryAt 122 = .ok (.iastore, 1) := by decide +kernel
theorem dX8_tryAt_123 : decode cX8_tryAt 123 = .ok (.iload_n 3, 1) := by decide +kernel
theorem dX8_tryAt_124 : decode cX8_tryAt 124 = .ok (.ireturn, 1) := by decide +kernel
theorem dX8_trial_0 : decode cX8_trial 0 = .ok (.aload_n 0, 1) := by decide +kernel
theorem dX8_trial_1 : decode cX8_trial 1 = .ok (.iload_n 1, 1) := by decide +kernel
theorem dX8_trial_2 : decode cX8_trial 2 = .ok (.invokevirtual 191, 3) := by decide +kernel
theorem dX8_trial_5 : decode cX8_trial 5 = .ok (.ifCond .ne 5, 3) := by decide +kernel
theorem dX8_trial_8 : decode cX8_trial 8 = .ok (.iconst (-1), 1) := by decide +kernel
theorem dX8_trial_9 : decode cX8_trial 9 = .ok (.ireturn, 1) := by decide +kernel
theorem dX8_trial_10 : decode cX8_trial 10 = .ok (.aload_n 0, 1) := by decide +kernel
theorem dX8_trial_11 : decode cX8_trial 11 = .ok (.iload_n 1, 1) := by decide +kernel
theorem dX8_trial_12 : decode cX8_trial 12 = .ok (.invokevirtual 219, 3) := by decide +kernel
theorem dX8_trial_15 : decode cX8_trial 15 = .ok (.ifCond .eq 6, 3) := by decide +kernel
theorem dX8_trial_18 : decode cX8_trial 18 = .ok (.bipush (-4), 2) := by decide +kernel
theorem dX8_trial_20 : decode cX8_trial 20 = .ok (.ireturn, 1) := by decide +kernel
theorem dX8_trial_21 : decode cX8_trial 21 = .ok (.aload_n 0, 1) := by decide +kernel
theorem dX8_trial_22 : decode cX8_trial 22 = .ok (.getfield 7, 3) := by decide +kernel
theorem dX8_trial_25 : decode cX8_trial 25 = .ok (.iconst 0, 1) := by decide +kernel
theorem dX8_trial_26 : decode cX8_trial 26 = .ok (.iaload, 1) := by decide +kernel
theorem dX8_trial_27 : decode cX8_trial 27 = .ok (.bipush 40, 2) := by decide +kernel
theorem dX8_trial_29 : decode cX8_trial 29 = .ok (.if_icmp .ne 6, 3) := by decide +kernel
theorem dX8_trial_32 : decode cX8_trial 32 = .ok (.bipush (-2), 2) := by decide +kernel
theorem dX8_trial_34 : decode cX8_trial 34 = .ok (.ireturn, 1) := by decide +kernel
theorem dX8_trial_35 : decode cX8_trial 35 = .ok (.aload_n 0, 1) := by decide +kernel
theorem dX8_trial_36 : decode cX8_trial 36 = .ok (.invokevirtual 210, 3) := by decide +kernel
theorem dX8_trial_39 : decode cX8_trial 39 = .ok (.aload_n 0, 1) := by decide +kernel
theorem dX8_trial_40 : decode cX8_trial 40 = .ok (.iconst 0, 1) := by decide +kernel
theorem dX8_trial_41 : decode cX8_trial 41 = .ok (.iload_n 1, 1) := by decide +kernel
theorem dX8_trial_42 : decode cX8_trial 42 = .ok (.invokevirtual 229, 3) := by decide +kernel
theorem dX8_trial_45 : decode cX8_trial 45 = .ok (.istore_n 2, 1) := by decide +kernel
theorem dX8_trial_46 : decode cX8_trial 46 = .ok (.aload_n 0, 1) := by decide +kernel
theorem dX8_trial_47 : decode cX8_trial 47 = .ok (.aload_n 0, 1) := by decide +kernel
theorem dX8_trial_48 : decode cX8_trial 48 = .ok (.iload_n 1, 1) := by decide +kernel
theorem dX8_trial_49 : decode cX8_trial 49 = .ok (.iload_n 2, 1) := by decide +kernel
theorem dX8_trial_50 : decode cX8_trial 50 = .ok (.invokevirtual 226, 3) := by decide +kernel
theorem dX8_trial_53 : decode cX8_trial 53 = .ok (.ifCond .eq 7, 3) := by decide +kernel
theorem dX8_trial_56 : decode cX8_trial 56 = .ok (.iconst 1, 1) := by decide +kernel
theorem dX8_trial_57 : decode cX8_trial 57 = .ok (.goto 4, 3) := by decide +kernel
theorem dX8_trial_60 : decode cX8_trial 60 = .ok (.iconst 0, 1) := by decide +kernel
theorem dX8_trial_61 : decode cX8_trial 61 = .ok (.putfield 69, 3) := by decide +kernel
theorem dX8_trial_64 : decode cX8_trial 64 = .ok (.iload_n 2, 1) := by decide +kernel
theorem dX8_trial_65 : decode cX8_trial 65 = .ok (.ireturn, 1) := by decide +kernel
theorem dX8_undo_0 : decode cX8_undo 0 = .ok (.iload_n 1, 1) := by decide +kernel
theorem dX8_undo_1 : decode cX8_undo 1 = .ok (.i2l, 1) := by decide +kernel
theorem dX8_undo_2 : decode cX8_undo 2 = .ok (.lconst 0, 1) := by decide +kernel
theorem dX8_undo_3 : decode cX8_undo 3 = .ok (.aload_n 0, 1) := by decide +kernel
theorem dX8_undo_4 : decode cX8_undo 4 = .ok (.getfield 7, 3) := by decide +kernel
theorem dX8_undo_7 : decode cX8_undo 7 = .ok (.iconst 0, 1) := by decide +kernel
theorem dX8_undo_8 : decode cX8_undo 8 = .ok (.iaload, 1) := by decide +kernel
theorem dX8_undo_9 : decode cX8_undo 9 = .ok (.i2l, 1) := by decide +kernel
theorem dX8_undo_10 : decode cX8_undo 10 = .ok (.invokestatic 74, 3) := by decide +kernel
theorem dX8_undo_13 : decode cX8_undo 13 = .ok (.ifCond .ne 5, 3) := by decide +kernel
theorem dX8_undo_16 : decode cX8_undo 16 = .ok (.iconst (-1), 1) := by decide +kernel
theorem dX8_undo_17 : decode cX8_undo 17 = .ok (.ireturn, 1) := by decide +kernel
theorem dX8_undo_18 : decode cX8_undo 18 = .ok (.aload_n 0, 1) := by decide +kernel
theorem dX8_undo_19 : decode cX8_undo 19 = .ok (.getfield 7, 3) := by decide +kernel
theorem dX8_undo_22 : decode cX8_undo 22 = .ok (.iconst 0, 1) := by decide +kernel
theorem dX8_undo_23 : decode cX8_undo 23 = .ok (.iaload, 1) := by decide +kernel
theorem dX8_undo_24 : decode cX8_undo 24 = .ok (.iload_n 1, 1) := by decide +kernel
theorem dX8_undo_25 : decode cX8_undo 25 = .ok (.isub, 1) := by decide +kernel
theorem dX8_undo_26 : decode cX8_undo 26 = .ok (.istore_n 2, 1) := by decide +kernel
theorem dX8_undo_27 : decode cX8_undo 27 = .ok (.iconst 0, 1) := by decide +kernel
theorem dX8_undo_28 : decode cX8_undo 28 = .ok (.istore_n 3, 1) := by decide +kernel
theorem dX8_undo_29 : decode cX8_undo 29 = .ok (.iload_n 3, 1) := by decide +kernel
theorem dX8_undo_30 : decode cX8_undo 30 = .ok (.bipush 16, 2) := by decide +kernel
theorem dX8_undo_32 : decode cX8_undo 32 = .ok (.if_icmp .ge 35, 3) := by decide +kernel
theorem dX8_undo_35 : decode cX8_undo 35 = .ok (.iload_n 2, 1) := by decide +kernel
theorem dX8_undo_36 : decode cX8_undo 36 = .ok (.ifCond .le 31, 3) := by decide +kernel
theorem dX8_undo_39 : decode cX8_undo 39 = .ok (.aload_n 0, 1) := by decide +kernel
theorem dX8_undo_40 : decode cX8_undo 40 = .ok (.getfield 7, 3) := by decide +kernel
theorem dX8_undo_43 : decode cX8_undo 43 = .ok (.iconst 1, 1) := by decide +kernel
theorem dX8_undo_44 : decode cX8_undo 44 = .ok (.iload_n 3, 1) := by decide +kernel
theorem dX8_undo_45 : decode cX8_undo 45 = .ok (.iadd, 1) := by decide +kernel
theorem dX8_undo_46 : decode cX8_undo 46 = .ok (.aload_n 0, 1) := by decide +kernel
theorem dX8_undo_47 : decode cX8_undo 47 = .ok (.getfield 7, 3) := by decide +kernel
theorem dX8_undo_50 : decode cX8_undo 50 = .ok (.bipush 17, 2) := by decide +kernel
theorem dX8_undo_52 : decode cX8_undo 52 = .ok (.bipush 16, 2) := by decide +kernel
theorem dX8_undo_54 : decode cX8_undo 54 = .ok (.iload_n 1, 1) := by decide +kernel
theorem dX8_undo_55 : decode cX8_undo 55 = .ok (.imul, 1) := by decide +kernel
theorem dX8_undo_56 : decode cX8_undo 56 = .ok (.iadd, 1) := by decide +kernel
theorem dX8_undo_57 : decode cX8_undo 57 = .ok (.iload_n 3, 1) := by decide +kernel
theorem dX8_undo_58 : decode cX8_undo 58 = .ok (.iadd, 1) := by decide +kernel
theorem dX8_undo_59 : decode cX8_undo 59 = .ok (.iaload, 1) := by decide +kernel
theorem dX8_undo_60 : decode cX8_undo 60 = .ok (.iastore, 1) := by decide +kernel
theorem dX8_undo_61 : decode cX8_undo 61 = .ok (.iinc 3 1, 3) := by decide +kernel
theorem dX8_undo_64 : decode cX8_undo 64 = .ok (.goto (-35), 3) := by decide +kernel
theorem dX8_undo_67 : decode cX8_undo 67 = .ok (.aload_n 0, 1) := by decide +kernel
theorem dX8_undo_68 : decode cX8_undo 68 = .ok (.getfield 7, 3) := by decide +kernel
theorem dX8_undo_71 : decode cX8_undo 71 = .ok (.iconst 0, 1) := by decide +kernel
theorem dX8_undo_72 : decode cX8_undo 72 = .ok (.iload_n 1, 1) := by decide +kernel
theorem dX8_undo_73 : decode cX8_undo 73 = .ok (.iastore, 1) := by decide +kernel
theorem dX8_undo_74 : decode cX8_undo 74 = .ok (.iload_n 2, 1) := by decide +kernel
theorem dX8_undo_75 : decode cX8_undo 75 = .ok (.ireturn, 1) := by decide +kernel
theorem dX8_copyCourt_0 : decode cX8_copyCourt 0 = .ok (.iconst 0, 1) := by decide +kernel
theorem dX8_copyCourt_1 : decode cX8_copyCourt 1 = .ok (.istore_n 3, 1) := by decide +kernel
theorem dX8_copyCourt_2 : decode cX8_copyCourt 2 = .ok (.iload_n 3, 1) := by decide +kernel
theorem dX8_copyCourt_3 : decode cX8_copyCourt 3 = .ok (.sipush 657, 3) := by decide +kernel
theorem dX8_copyCourt_6 : decode cX8_copyCourt 6 = .ok (.if_icmp .ge 25, 3) := by decide +kernel
theorem dX8_copyCourt_9 : decode cX8_copyCourt 9 = .ok (.aload_n 0, 1) := by decide +kernel
theorem dX8_copyCourt_10 : decode cX8_copyCourt 10 = .ok (.getfield 7, 3) := by decide +kernel
theorem dX8_copyCourt_13 : decode cX8_copyCourt 13 = .ok (.iload_n 2, 1) := by decide +kernel
theorem dX8_copyCourt_14 : decode cX8_copyCourt 14 = .ok (.iload_n 3, 1) := by decide +kernel
theorem dX8_copyCourt_15 : decode cX8_copyCourt 15 = .ok (.iadd, 1) := by decide +kernel
theorem dX8_copyCourt_16 : decode cX8_copyCourt 16 = .ok (.aload_n 0, 1) := by decide +kernel
theorem dX8_copyCourt_17 : decode cX8_copyCourt 17 = .ok (.getfield 7, 3) := by decide +kernel
theorem dX8_copyCourt_20 : decode cX8_copyCourt 20 = .ok (.iload_n 1, 1) := by decide +kernel
theorem dX8_copyCourt_21 : decode cX8_copyCourt 21 = .ok (.iload_n 3, 1) := by decide +kernel
theorem dX8_copyCourt_22 : decode cX8_copyCourt 22 = .ok (.iadd, 1) := by decide +kernel
theorem dX8_copyCourt_23 : decode cX8_copyCourt 23 = .ok (.iaload, 1) := by decide +kernel
theorem dX8_copyCourt_24 : decode cX8_copyCourt 24 = .ok (.iastore, 1) := by decide +kernel
theorem dX8_copyCourt_25 : decode cX8_copyCourt 25 = .ok (.iinc 3 1, 3) := by decide +kernel
theorem dX8_copyCourt_28 : decode cX8_copyCourt 28 = .ok (.goto (-26), 3) := by decide +kernel
theorem dX8_copyCourt_31 : decode cX8_copyCourt 31 = .ok (.return_, 1) := by decide +kernel
theorem dX8_keep_0 : decode cX8_keep 0 = .ok (.iload_n 1, 1) := by decide +kernel
theorem dX8_keep_1 : decode cX8_keep 1 = .ok (.i2l, 1) := by decide +kernel
theorem dX8_keep_2 : decode cX8_keep 2 = .ok (.lconst 0, 1) := by decide +kernel
theorem dX8_keep_3 : decode cX8_keep 3 = .ok (.ldc2_w 232, 3) := by decide +kernel
theorem dX8_keep_6 : decode cX8_keep 6 = .ok (.invokestatic 74, 3) := by decide +kernel
theorem dX8_keep_9 : decode cX8_keep 9 = .ok (.ifCond .ne 5, 3) := by decide +kernel
theorem dX8_keep_12 : decode cX8_keep 12 = .ok (.iconst (-1), 1) := by decide +kernel
theorem dX8_keep_13 : decode cX8_keep 13 = .ok (.ireturn, 1) := by decide +kernel
theorem dX8_keep_14 : decode cX8_keep 14 = .ok (.aload_n 0, 1) := by decide +kernel
theorem dX8_keep_15 : decode cX8_keep 15 = .ok (.getfield 157, 3) := by decide +kernel
theorem dX8_keep_18 : decode cX8_keep 18 = .ok (.ifCond .ne 6, 3) := by decide +kernel
theorem dX8_keep_21 : decode cX8_keep 21 = .ok (.bipush (-4), 2) := by decide +kernel
theorem dX8_keep_23 : decode cX8_keep 23 = .ok (.ireturn, 1) := by decide +kernel
theorem dX8_keep_24 : decode cX8_keep 24 = .ok (.aload_n 0, 1) := by decide +kernel
theorem dX8_keep_25 : decode cX8_keep 25 = .ok (.iconst 0, 1) := by decide +kernel
theorem dX8_keep_26 : decode cX8_keep 26 = .ok (.sipush 657, 3) := by decide +kernel
theorem dX8_keep_29 : decode cX8_keep 29 = .ok (.iconst 1, 1) := by decide +kernel
theorem dX8_keep_30 : decode cX8_keep 30 = .ok (.iload_n 1, 1) := by decide +kernel
theorem dX8_keep_31 : decode cX8_keep 31 = .ok (.iadd, 1) := by decide +kernel
theorem dX8_keep_32 : decode cX8_keep 32 = .ok (.imul, 1) := by decide +kernel
theorem dX8_keep_33 : decode cX8_keep 33 = .ok (.invokevirtual 234, 3) := by decide +kernel
theorem dX8_keep_36 : decode cX8_keep 36 = .ok (.aload_n 0, 1) := by decide +kernel
theorem dX8_keep_37 : decode cX8_keep 37 = .ok (.getfield 7, 3) := by decide +kernel
theorem dX8_keep_40 : decode cX8_keep 40 = .ok (.iconst 0, 1) := by decide +kernel
theorem dX8_keep_41 : decode cX8_keep 41 = .ok (.iaload, 1) := by decide +kernel
theorem dX8_keep_42 : decode cX8_keep 42 = .ok (.ireturn, 1) := by decide +kernel
theorem dX8_on_0 : decode cX8_on 0 = .ok (.iload_n 1, 1) := by decide +kernel
theorem dX8_on_1 : decode cX8_on 1 = .ok (.i2l, 1) := by decide +kernel
theorem dX8_on_2 : decode cX8_on 2 = .ok (.lconst 0, 1) := by decide +kernel
theorem dX8_on_3 : decode cX8_on 3 = .ok (.ldc2_w 232, 3) := by decide +kernel
theorem dX8_on_6 : decode cX8_on 6 = .ok (.invokestatic 74, 3) := by decide +kernel
theorem dX8_on_9 : decode cX8_on 9 = .ok (.ifCond .ne 5, 3) := by decide +kernel
theorem dX8_on_12 : decode cX8_on 12 = .ok (.iconst (-1), 1) := by decide +kernel
theorem dX8_on_13 : decode cX8_on 13 = .ok (.ireturn, 1) := by decide +kernel
theorem dX8_on_14 : decode cX8_on 14 = .ok (.aload_n 0, 1) := by decide +kernel
theorem dX8_on_15 : decode cX8_on 15 = .ok (.getfield 7, 3) := by decide +kernel
theorem dX8_on_18 : decode cX8_on 18 = .ok (.sipush 657, 3) := by decide +kernel
theorem dX8_on_21 : decode cX8_on 21 = .ok (.iconst 1, 1) := by decide +kernel
theorem dX8_on_22 : decode cX8_on 22 = .ok (.iload_n 1, 1) := by decide +kernel
theorem dX8_on_23 : decode cX8_on 23 = .ok (.iadd, 1) := by decide +kernel
theorem dX8_on_24 : decode cX8_on 24 = .ok (.imul, 1) := by decide +kernel
theorem dX8_on_25 : decode cX8_on 25 = .ok (.iconst 0, 1) := by decide +kernel
theorem dX8_on_26 : decode cX8_on 26 = .ok (.iadd, 1) := by decide +kernel
theorem dX8_on_27 : decode cX8_on 27 = .ok (.iaload, 1) := by decide +kernel
theorem dX8_on_28 : decode cX8_on 28 = .ok (.ifCond .ge 9, 3) := by decide +kernel
theorem dX8_on_31 : decode cX8_on 31 = .ok (.aload_n 0, 1) := by decide +kernel
theorem dX8_on_32 : decode cX8_on 32 = .ok (.iconst 1, 1) := by decide +kernel
theorem dX8_on_33 : decode cX8_on 33 = .ok (.invokevirtual 84, 3) := by decide +kernel
theorem dX8_on_36 : decode cX8_on 36 = .ok (.ireturn, 1) := by decide +kernel
theorem dX8_on_37 : decode cX8_on 37 = .ok (.aload_n 0, 1) := by decide +kernel
theorem dX8_on_38 : decode cX8_on 38 = .ok (.sipush 657, 3) := by decide +kernel
theorem dX8_on_41 : decode cX8_on 41 = .ok (.iconst 1, 1) := by decide +kernel
theorem dX8_on_42 : decode cX8_on 42 = .ok (.iload_n 1, 1) := by decide +kernel
theorem dX8_on_43 : decode cX8_on 43 = .ok (.iadd, 1) := by decide +kernel
theorem dX8_on_44 : decode cX8_on 44 = .ok (.imul, 1) := by decide +kernel
theorem dX8_on_45 : decode cX8_on 45 = .ok (.iconst 0, 1) := by decide +kernel
theorem dX8_on_46 : decode cX8_on 46 = .ok (.invokevirtual 234, 3) := by decide +kernel
theorem dX8_on_49 : decode cX8_on 49 = .ok (.aload_n 0, 1) := by decide +kernel
theorem dX8_on_50 : decode cX8_on 50 = .ok (.getfield 7, 3) := by decide +kernel
theorem dX8_on_53 : decode cX8_on 53 = .ok (.iconst 0, 1) := by decide +kernel
theorem dX8_on_54 : decode cX8_on 54 = .ok (.iaload, 1) := by decide +kernel
theorem dX8_on_55 : decode cX8_on 55 = .ok (.ireturn, 1) := by decide +kernel
theorem dX8_comes_0 : decode cX8_comes 0 = .ok (.aload_n 0, 1) := by decide +kernel
theorem dX8_comes_1 : decode cX8_comes 1 = .ok (.getfield 157, 3) := by decide +kernel
theorem dX8_comes_4 : decode cX8_comes 4 = .ok (.ifCond .ne 6, 3) := by decide +kernel
theorem dX8_comes_7 : decode cX8_comes 7 = .ok (.bipush (-4), 2) := by decide +kernel
theorem dX8_comes_9 : decode cX8_comes 9 = .ok (.ireturn, 1) := by decide +kernel
theorem dX8_comes_10 : decode cX8_comes 10 = .ok (.iconst 0, 1) := by decide +kernel
theorem dX8_comes_11 : decode cX8_comes 11 = .ok (.istore_n 1, 1) := by decide +kernel
theorem dX8_comes_12 : decode cX8_comes 12 = .ok (.aload_n 0, 1) := by decide +kernel
theorem dX8_comes_13 : decode cX8_comes 13 = .ok (.iconst 0, 1) := by decide +kernel
theorem dX8_comes_14 : decode cX8_comes 14 = .ok (.putfield 69, 3) := by decide +kernel
theorem dX8_comes_17 : decode cX8_comes 17 = .ok (.iconst 0, 1) := by decide +kernel
theorem dX8_comes_18 : decode cX8_comes 18 = .ok (.istore_n 2, 1) := by decide +kernel
theorem dX8_comes_19 : decode cX8_comes 19 = .ok (.iload_n 2, 1) := by decide +kernel
theorem dX8_comes_20 : decode cX8_comes 20 = .ok (.aload_n 0, 1) := by decide +kernel
theorem dX8_comes_21 : decode cX8_comes 21 = .ok (.getfield 157, 3) := by decide +kernel
theorem dX8_comes_24 : decode cX8_comes 24 = .ok (.if_icmp .ge 86, 3) := by decide +kernel
theorem dX8_comes_27 : decode cX8_comes 27 = .ok (.aload_n 0, 1) := by decide +kernel
theorem dX8_comes_28 : decode cX8_comes 28 = .ok (.iload_n 2, 1) := by decide +kernel
theorem dX8_comes_29 : decode cX8_comes 29 = .ok (.invokevirtual 219, 3) := by decide +kernel
theorem dX8_comes_32 : decode cX8_comes 32 = .ok (.ifCond .ne 21, 3) := by decide +kernel
theorem dX8_comes_35 : decode cX8_comes 35 = .ok (.aload_n 0, 1) := by decide +kernel
theorem dX8_comes_36 : decode cX8_comes 36 = .ok (.iload_n 2, 1) := by decide +kernel
theorem dX8_comes_37 : decode cX8_comes 37 = .ok (.aload_n 0, 1) := by decide +kernel
theorem dX8_comes_38 : decode cX8_comes 38 = .ok (.getfield 7, 3) := by decide +kernel
theorem dX8_comes_41 : decode cX8_comes 41 = .ok (.iconst 1, 1) := by decide +kernel
theorem dX8_comes_42 : decode cX8_comes 42 = .ok (.iaload, 1) := by decide +kernel
theorem dX8_comes_43 : decode cX8_comes 43 = .ok (.invokevirtual 185, 3) := by decide +kernel
theorem dX8_comes_46 : decode cX8_comes 46 = .ok (.ifCond .eq 7, 3) := by decide +kernel
theorem dX8_comes_49 : decode cX8_comes 49 = .ok (.iconst 1, 1) := by decide +kernel
theorem dX8_comes_50 : decode cX8_comes 50 = .ok (.goto 4, 3) := by decide +kernel
theorem dX8_comes_53 : decode cX8_comes 53 = .ok (.iconst 0, 1) := by decide +kernel
theorem dX8_comes_54 : decode cX8_comes 54 = .ok (.istore_n 3, 1) := by decide +kernel
theorem dX8_comes_55 : decode cX8_comes 55 = .ok (.iload_n 1, 1) := by decide +kernel
theorem dX8_comes_56 : decode cX8_comes 56 = .ok (.iload_n 3, 1) := by decide +kernel
theorem dX8_comes_57 : decode cX8_comes 57 = .ok (.ifCond .eq 9, 3) := by decide +kernel
theorem dX8_comes_60 : decode cX8_comes 60 = .ok (.iconst 1, 1) := by decide +kernel
theorem dX8_comes_61 : decode cX8_comes 61 = .ok (.iload_n 2, 1) := by decide +kernel
theorem dX8_comes_62 : decode cX8_comes 62 = .ok (.ishl, 1) := by decide +kernel
theorem dX8_comes_63 : decode cX8_comes 63 = .ok (.goto 4, 3) := by decide +kernel
theorem dX8_comes_66 : decode cX8_comes 66 = .ok (.iconst 0, 1) := by decide +kernel
theorem dX8_comes_67 : decode cX8_comes 67 = .ok (.ior, 1) := by decide +kernel
theorem dX8_comes_68 : decode cX8_comes 68 = .ok (.istore_n 1, 1) := by decide +kernel
theorem dX8_comes_69 : decode cX8_comes 69 = .ok (.aload_n 0, 1) := by decide +kernel
theorem dX8_comes_70 : decode cX8_comes 70 = .ok (.dup, 1) := by decide +kernel
theorem dX8_comes_71 : decode cX8_comes 71 = .ok (.getfield 69, 3) := by decide +kernel
theorem dX8_comes_74 : decode cX8_comes 74 = .ok (.iload_n 3, 1) := by decide +kernel
theorem dX8_comes_75 : decode cX8_comes 75 = .ok (.ifCond .eq 24, 3) := by decide +kernel
theorem dX8_comes_78 : decode cX8_comes 78 = .ok (.aload_n 0, 1) := by decide +kernel
theorem dX8_comes_79 : decode cX8_comes 79 = .ok (.iconst 0, 1) := by decide +kernel
theorem dX8_comes_80 : decode cX8_comes 80 = .ok (.iload_n 2, 1) := by decide +kernel
theorem dX8_comes_81 : decode cX8_comes 81 = .ok (.aload_n 0, 1) := by decide +kernel
theorem dX8_comes_82 : decode cX8_comes 82 = .ok (.getfield 7, 3) := by decide +kernel
theorem dX8_comes_85 : decode cX8_comes 85 = .ok (.iconst 1, 1) := by decide +kernel
theorem dX8_comes_86 : decode cX8_comes 86 = .ok (.iaload, 1) := by decide +kernel
theorem dX8_comes_87 : decode cX8_comes 87 = .ok (.invokevirtual 188, 3) := by decide +kernel
theorem dX8_comes_90 : decode cX8_comes 90 = .ok (.ifCond .eq 9, 3) := by decide +kernel
theorem dX8_comes_93 : decode cX8_comes 93 = .ok (.iconst 1, 1) := by decide +kernel
theorem dX8_comes_94 : decode cX8_comes 94 = .ok (.iload_n 2, 1) := by decide +kernel
theorem dX8_comes_95 : decode cX8_comes 95 = .ok (.ishl, 1) := by decide +kernel
theorem dX8_comes_96 : decode cX8_comes 96 = .ok (.goto 4, 3) := by decide +kernel
theorem dX8_comes_99 : decode cX8_comes 99 = .ok (.iconst 0, 1) := by decide +kernel
theorem dX8_comes_100 : decode cX8_comes 100 = .ok (.ior, 1) := by decide +kernel
theorem dX8_comes_101 : decode cX8_comes 101 = .ok (.putfield 69, 3) := by decide +kernel
theorem dX8_comes_104 : decode cX8_comes 104 = .ok (.iinc 2 1, 3) := by decide +kernel
theorem dX8_comes_107 : decode cX8_comes 107 = .ok (.goto (-88), 3) := by decide +kernel
theorem dX8_comes_110 : decode cX8_comes 110 = .ok (.iload_n 1, 1) := by decide +kernel
theorem dX8_comes_111 : decode cX8_comes 111 = .ok (.ireturn, 1) := by decide +kernel
theorem dX8_wrongBy_0 : decode cX8_wrongBy 0 = .ok (.iconst 0, 1) := by decide +kernel
theorem dX8_wrongBy_1 : decode cX8_wrongBy 1 = .ok (.istore_n 3, 1) := by decide +kernel
theorem dX8_wrongBy_2 : decode cX8_wrongBy 2 = .ok (.iconst 0, 1) := by decide +kernel
theorem dX8_wrongBy_3 : decode cX8_wrongBy 3 = .ok (.istore 4, 2) := by decide +kernel
theorem dX8_wrongBy_5 : decode cX8_wrongBy 5 = .ok (.iload 4, 2) := by decide +kernel
theorem dX8_wrongBy_7 : decode cX8_wrongBy 7 = .ok (.aload_n 0, 1) := by decide +kernel
theorem dX8_wrongBy_8 : decode cX8_wrongBy 8 = .ok (.getfield 157, 3) := by decide +kernel
theorem dX8_wrongBy_11 : decode cX8_wrongBy 11 = .ok (.if_icmp .ge 70, 3) := by decide +kernel
theorem dX8_wrongBy_14 : decode cX8_wrongBy 14 = .ok (.aload_n 0, 1) := by decide +kernel
theorem dX8_wrongBy_15 : decode cX8_wrongBy 15 = .ok (.iload 4, 2) := by decide +kernel
theorem dX8_wrongBy_17 : decode cX8_wrongBy 17 = .ok (.invokevirtual 219, 3) := by decide +kernel
theorem dX8_wrongBy_20 : decode cX8_wrongBy 20 = .ok (.ifCond .ne 24, 3) := by decide +kernel
theorem dX8_wrongBy_23 : decode cX8_wrongBy 23 = .ok (.aload_n 0, 1) := by decide +kernel
theorem dX8_wrongBy_24 : decode cX8_wrongBy 24 = .ok (.iload 4, 2) := by decide +kernel
theorem dX8_wrongBy_26 : decode cX8_wrongBy 26 = .ok (.aload_n 0, 1) := by decide +kernel
theorem dX8_wrongBy_27 : decode cX8_wrongBy 27 = .ok (.iconst 0, 1) := by decide +kernel
theorem dX8_wrongBy_28 : decode cX8_wrongBy 28 = .ok (.iload 4, 2) := by decide +kernel
theorem dX8_wrongBy_30 : decode cX8_wrongBy 30 = .ok (.iload_n 1, 1) := by decide +kernel
theorem dX8_wrongBy_31 : decode cX8_wrongBy 31 = .ok (.invokevirtual 222, 3) := by decide +kernel
theorem dX8_wrongBy_34 : decode cX8_wrongBy 34 = .ok (.invokevirtual 226, 3) := by decide +kernel
theorem dX8_wrongBy_37 : decode cX8_wrongBy 37 = .ok (.ifCond .eq 7, 3) := by decide +kernel
theorem dX8_wrongBy_40 : decode cX8_wrongBy 40 = .ok (.iconst 1, 1) := by decide +kernel
theorem dX8_wrongBy_41 : decode cX8_wrongBy 41 = .ok (.goto 4, 3) := by decide +kernel
theorem dX8_wrongBy_44 : decode cX8_wrongBy 44 = .ok (.iconst 0, 1) := by decide +kernel
theorem dX8_wrongBy_45 : decode cX8_wrongBy 45 = .ok (.istore 5, 2) := by decide +kernel
theorem dX8_wrongBy_47 : decode cX8_wrongBy 47 = .ok (.iload_n 3, 1) := by decide +kernel
theorem dX8_wrongBy_48 : decode cX8_wrongBy 48 = .ok (.iload 5, 2) := by decide +kernel
theorem dX8_wrongBy_50 : decode cX8_wrongBy 50 = .ok (.ifCond .eq 22, 3) := by decide +kernel
theorem dX8_wrongBy_53 : decode cX8_wrongBy 53 = .ok (.iload_n 2, 1) := by decide +kernel
theorem dX8_wrongBy_54 : decode cX8_wrongBy 54 = .ok (.ifCond .eq 14, 3) := by decide +kernel
theorem dX8_wrongBy_57 : decode cX8_wrongBy 57 = .ok (.aload_n 0, 1) := by decide +kernel
theorem dX8_wrongBy_58 : decode cX8_wrongBy 58 = .ok (.getfield 16, 3) := by decide +kernel
theorem dX8_wrongBy_61 : decode cX8_wrongBy 61 = .ok (.iload 4, 2) := by decide +kernel
theorem dX8_wrongBy_63 : decode cX8_wrongBy 63 = .ok (.iaload, 1) := by decide +kernel
theorem dX8_wrongBy_64 : decode cX8_wrongBy 64 = .ok (.iconst 1, 1) := by decide +kernel
theorem dX8_wrongBy_65 : decode cX8_wrongBy 65 = .ok (.if_icmp .ne 7, 3) := by decide +kernel
theorem dX8_wrongBy_68 : decode cX8_wrongBy 68 = .ok (.iconst 1, 1) := by decide +kernel
theorem dX8_wrongBy_69 : decode cX8_wrongBy 69 = .ok (.goto 4, 3) := by decide +kernel
theorem dX8_wrongBy_72 : decode cX8_wrongBy 72 = .ok (.iconst 0, 1) := by decide +kernel
theorem dX8_wrongBy_73 : decode cX8_wrongBy 73 = .ok (.iadd, 1) := by decide +kernel
theorem dX8_wrongBy_74 : decode cX8_wrongBy 74 = .ok (.istore_n 3, 1) := by decide +kernel
theorem dX8_wrongBy_75 : decode cX8_wrongBy 75 = .ok (.iinc 4 1, 3) := by decide +kernel
theorem dX8_wrongBy_78 : decode cX8_wrongBy 78 = .ok (.goto (-73), 3) := by decide +kernel
theorem dX8_wrongBy_81 : decode cX8_wrongBy 81 = .ok (.iload_n 3, 1) := by decide +kernel
theorem dX8_wrongBy_82 : decode cX8_wrongBy 82 = .ok (.ireturn, 1) := by decide +kernel
theorem dX8_wrong_0 : decode cX8_wrong 0 = .ok (.iload_n 1, 1) := by decide +kernel
theorem dX8_wrong_1 : decode cX8_wrong 1 = .ok (.i2l, 1) := by decide +kernel
theorem dX8_wrong_2 : decode cX8_wrong 2 = .ok (.lconst 0, 1) := by decide +kernel
theorem dX8_wrong_3 : decode cX8_wrong 3 = .ok (.ldc2_w 237, 3) := by decide +kernel
theorem dX8_wrong_6 : decode cX8_wrong 6 = .ok (.invokestatic 74, 3) := by decide +kernel
theorem dX8_wrong_9 : decode cX8_wrong 9 = .ok (.ifCond .ne 5, 3) := by decide +kernel
theorem dX8_wrong_12 : decode cX8_wrong 12 = .ok (.iconst (-1), 1) := by decide +kernel
theorem dX8_wrong_13 : decode cX8_wrong 13 = .ok (.ireturn, 1) := by decide +kernel
theorem dX8_wrong_14 : decode cX8_wrong 14 = .ok (.aload_n 0, 1) := by decide +kernel
theorem dX8_wrong_15 : decode cX8_wrong 15 = .ok (.getfield 157, 3) := by decide +kernel
theorem dX8_wrong_18 : decode cX8_wrong 18 = .ok (.ifCond .ne 6, 3) := by decide +kernel
theorem dX8_wrong_21 : decode cX8_wrong 21 = .ok (.bipush (-4), 2) := by decide +kernel
theorem dX8_wrong_23 : decode cX8_wrong 23 = .ok (.ireturn, 1) := by decide +kernel
theorem dX8_wrong_24 : decode cX8_wrong 24 = .ok (.aload_n 0, 1) := by decide +kernel
theorem dX8_wrong_25 : decode cX8_wrong 25 = .ok (.aload_n 0, 1) := by decide +kernel
theorem dX8_wrong_26 : decode cX8_wrong 26 = .ok (.iload_n 1, 1) := by decide +kernel
theorem dX8_wrong_27 : decode cX8_wrong 27 = .ok (.iconst 1, 1) := by decide +kernel
theorem dX8_wrong_28 : decode cX8_wrong 28 = .ok (.invokevirtual 239, 3) := by decide +kernel
theorem dX8_wrong_31 : decode cX8_wrong 31 = .ok (.putfield 69, 3) := by decide +kernel
theorem dX8_wrong_34 : decode cX8_wrong 34 = .ok (.aload_n 0, 1) := by decide +kernel
theorem dX8_wrong_35 : decode cX8_wrong 35 = .ok (.iload_n 1, 1) := by decide +kernel
theorem dX8_wrong_36 : decode cX8_wrong 36 = .ok (.iconst 0, 1) := by decide +kernel
theorem dX8_wrong_37 : decode cX8_wrong 37 = .ok (.invokevirtual 239, 3) := by decide +kernel
theorem dX8_wrong_40 : decode cX8_wrong 40 = .ok (.ireturn, 1) := by decide +kernel
theorem dX8_best_0 : decode cX8_best 0 = .ok (.aload_n 0, 1) := by decide +kernel
theorem dX8_best_1 : decode cX8_best 1 = .ok (.getfield 157, 3) := by decide +kernel
theorem dX8_best_4 : decode cX8_best 4 = .ok (.ifCond .ne 6, 3) := by decide +kernel
theorem dX8_best_7 : decode cX8_best 7 = .ok (.bipush (-4), 2) := by decide +kernel
theorem dX8_best_9 : decode cX8_best 9 = .ok (.ireturn, 1) := by decide +kernel
theorem dX8_best_10 : decode cX8_best 10 = .ok (.iconst 0, 1) := by decide +kernel
theorem dX8_best_11 : decode cX8_best 11 = .ok (.istore_n 1, 1) := by decide +kernel
theorem dX8_best_12 : decode cX8_best 12 = .ok (.iconst 1, 1) := by decide +kernel
theorem dX8_best_13 : decode cX8_best 13 = .ok (.istore_n 2, 1) := by decide +kernel
theorem dX8_best_14 : decode cX8_best 14 = .ok (.iload_n 2, 1) := by decide +kernel
theorem dX8_best_15 : decode cX8_best 15 = .ok (.bipush 31, 2) := by decide +kernel
theorem dX8_best_17 : decode cX8_best 17 = .ok (.if_icmp .ge 30, 3) := by decide +kernel
theorem dX8_best_20 : decode cX8_best 20 = .ok (.aload_n 0, 1) := by decide +kernel
theorem dX8_best_21 : decode cX8_best 21 = .ok (.iload_n 2, 1) := by decide +kernel
theorem dX8_best_22 : decode cX8_best 22 = .ok (.iconst 0, 1) := by decide +kernel
theorem dX8_best_23 : decode cX8_best 23 = .ok (.invokevirtual 239, 3) := by decide +kernel
theorem dX8_best_26 : decode cX8_best 26 = .ok (.aload_n 0, 1) := by decide +kernel
theorem dX8_best_27 : decode cX8_best 27 = .ok (.iload_n 1, 1) := by decide +kernel
theorem dX8_best_28 : decode cX8_best 28 = .ok (.iconst 0, 1) := by decide +kernel
theorem dX8_best_29 : decode cX8_best 29 = .ok (.invokevirtual 239, 3) := by decide +kernel
theorem dX8_best_32 : decode cX8_best 32 = .ok (.if_icmp .ge 7, 3) := by decide +kernel
theorem dX8_best_35 : decode cX8_best 35 = .ok (.iload_n 2, 1) := by decide +kernel
theorem dX8_best_36 : decode cX8_best 36 = .ok (.goto 4, 3) := by decide +kernel
theorem dX8_best_39 : decode cX8_best 39 = .ok (.iload_n 1, 1) := by decide +kernel
theorem dX8_best_40 : decode cX8_best 40 = .ok (.istore_n 1, 1) := by decide +kernel
theorem dX8_best_41 : decode cX8_best 41 = .ok (.iinc 2 1, 3) := by decide +kernel
theorem dX8_best_44 : decode cX8_best 44 = .ok (.goto (-30), 3) := by decide +kernel
theorem dX8_best_47 : decode cX8_best 47 = .ok (.aload_n 0, 1) := by decide +kernel
theorem dX8_best_48 : decode cX8_best 48 = .ok (.aload_n 0, 1) := by decide +kernel
theorem dX8_best_49 : decode cX8_best 49 = .ok (.iload_n 1, 1) := by decide +kernel
theorem dX8_best_50 : decode cX8_best 50 = .ok (.iconst 0, 1) := by decide +kernel
theorem dX8_best_51 : decode cX8_best 51 = .ok (.invokevirtual 239, 3) := by decide +kernel
theorem dX8_best_54 : decode cX8_best 54 = .ok (.putfield 69, 3) := by decide +kernel
theorem dX8_best_57 : decode cX8_best 57 = .ok (.iload_n 1, 1) := by decide +kernel
theorem dX8_best_58 : decode cX8_best 58 = .ok (.ireturn, 1) := by decide +kernel
theorem dX8_heats_0 : decode cX8_heats 0 = .ok (.aload_n 0, 1) := by decide +kernel
theorem dX8_heats_1 : decode cX8_heats 1 = .ok (.iload_n 1, 1) := by decide +kernel
theorem dX8_heats_2 : decode cX8_heats 2 = .ok (.invokevirtual 191, 3) := by decide +kernel
theorem dX8_heats_5 : decode cX8_heats 5 = .ok (.ifCond .eq 15, 3) := by decide +kernel
theorem dX8_heats_8 : decode cX8_heats 8 = .ok (.iload_n 2, 1) := by decide +kernel
theorem dX8_heats_9 : decode cX8_heats 9 = .ok (.i2l, 1) := by decide +kernel
theorem dX8_heats_10 : decode cX8_heats 10 = .ok (.lconst 0, 1) := by decide +kernel
theorem dX8_heats_11 : decode cX8_heats 11 = .ok (.ldc2_w 232, 3) := by decide +kernel
theorem dX8_heats_14 : decode cX8_heats 14 = .ok (.invokestatic 74, 3) := by decide +kernel
theorem dX8_heats_17 : decode cX8_heats 17 = .ok (.ifCond .ne 5, 3) := by decide +kernel
theorem dX8_heats_20 : decode cX8_heats 20 = .ok (.iconst (-1), 1) := by decide +kernel
theorem dX8_heats_21 : decode cX8_heats 21 = .ok (.ireturn, 1) := by decide +kernel
theorem dX8_heats_22 : decode cX8_heats 22 = .ok (.iconst 0, 1) := by decide +kernel
theorem dX8_heats_23 : decode cX8_heats 23 = .ok (.istore_n 3, 1) := by decide +kernel
theorem dX8_heats_24 : decode cX8_heats 24 = .ok (.iconst 0, 1) := by decide +kernel
theorem dX8_heats_25 : decode cX8_heats 25 = .ok (.istore 4, 2) := by decide +kernel
theorem dX8_heats_27 : decode cX8_heats 27 = .ok (.iload 4, 2) := by decide +kernel
theorem dX8_heats_29 : decode cX8_heats 29 = .ok (.bipush 31, 2) := by decide +kernel
theorem dX8_heats_31 : decode cX8_heats 31 = .ok (.if_icmp .ge 32, 3) := by decide +kernel
theorem dX8_heats_34 : decode cX8_heats 34 = .ok (.iload_n 3, 1) := by decide +kernel
theorem dX8_heats_35 : decode cX8_heats 35 = .ok (.aload_n 0, 1) := by decide +kernel
theorem dX8_heats_36 : decode cX8_heats 36 = .ok (.iconst 0, 1) := by decide +kernel
theorem dX8_heats_37 : decode cX8_heats 37 = .ok (.iload_n 1, 1) := by decide +kernel
theorem dX8_heats_38 : decode cX8_heats 38 = .ok (.iload 4, 2) := by decide +kernel
theorem dX8_heats_40 : decode cX8_heats 40 = .ok (.invokevirtual 222, 3) := by decide +kernel
theorem dX8_heats_43 : decode cX8_heats 43 = .ok (.iload_n 2, 1) := by decide +kernel
theorem dX8_heats_44 : decode cX8_heats 44 = .ok (.if_icmp .ne 10, 3) := by decide +kernel
theorem dX8_heats_47 : decode cX8_heats 47 = .ok (.iconst 1, 1) := by decide +kernel
theorem dX8_heats_48 : decode cX8_heats 48 = .ok (.iload 4, 2) := by decide +kernel
theorem dX8_heats_50 : decode cX8_heats 50 = .ok (.ishl, 1) := by decide +kernel
theorem dX8_heats_51 : decode cX8_heats 51 = .ok (.goto 4, 3) := by decide +kernel
theorem dX8_heats_54 : decode cX8_heats 54 = .ok (.iconst 0, 1) := by decide +kernel
theorem dX8_heats_55 : decode cX8_heats 55 = .ok (.ior, 1) := by decide +kernel
theorem dX8_heats_56 : decode cX8_heats 56 = .ok (.istore_n 3, 1) := by decide +kernel
theorem dX8_heats_57 : decode cX8_heats 57 = .ok (.iinc 4 1, 3) := by decide +kernel
theorem dX8_heats_60 : decode cX8_heats 60 = .ok (.goto (-33), 3) := by decide +kernel
theorem dX8_heats_63 : decode cX8_heats 63 = .ok (.iload_n 3, 1) := by decide +kernel
theorem dX8_heats_64 : decode cX8_heats 64 = .ok (.ireturn, 1) := by decide +kernel
theorem dX8_tellParts_0 : decode cX8_tellParts 0 = .ok (.lload_n 1, 1) := by decide +kernel
theorem dX8_tellParts_1 : decode cX8_tellParts 1 = .ok (.lstore 5, 2) := by decide +kernel
theorem dX8_tellParts_3 : decode cX8_tellParts 3 = .ok (.lload_n 3, 1) := by decide +kernel
theorem dX8_tellParts_4 : decode cX8_tellParts 4 = .ok (.lstore 7, 2) := by decide +kernel
theorem dX8_tellParts_6 : decode cX8_tellParts 6 = .ok (.lload 7, 2) := by decide +kernel
theorem dX8_tellParts_8 : decode cX8_tellParts 8 = .ok (.lconst 0, 1) := by decide +kernel
theorem dX8_tellParts_9 : decode cX8_tellParts 9 = .ok (.lcmp, 1) := by decide +kernel
theorem dX8_tellParts_10 : decode cX8_tellParts 10 = .ok (.ifCond .eq 21, 3) := by decide +kernel
theorem dX8_tellParts_13 : decode cX8_tellParts 13 = .ok (.lload 5, 2) := by decide +kernel
theorem dX8_tellParts_15 : decode cX8_tellParts 15 = .ok (.lload 7, 2) := by decide +kernel
theorem dX8_tellParts_17 : decode cX8_tellParts 17 = .ok (.lrem, 1) := by decide +kernel
theorem dX8_tellParts_18 : decode cX8_tellParts 18 = .ok (.lstore 9, 2) := by decide +kernel
theorem dX8_tellParts_20 : decode cX8_tellParts 20 = .ok (.lload 7, 2) := by decide +kernel
theorem dX8_tellParts_22 : decode cX8_tellParts 22 = .ok (.lstore 5, 2) := by decide +kernel
theorem dX8_tellParts_24 : decode cX8_tellParts 24 = .ok (.lload 9, 2) := by decide +kernel
theorem dX8_tellParts_26 : decode cX8_tellParts 26 = .ok (.lstore 7, 2) := by decide +kernel
theorem dX8_tellParts_28 : decode cX8_tellParts 28 = .ok (.goto (-22), 3) := by decide +kernel
theorem dX8_tellParts_31 : decode cX8_tellParts 31 = .ok (.aload_n 0, 1) := by decide +kernel
theorem dX8_tellParts_32 : decode cX8_tellParts 32 = .ok (.lload_n 1, 1) := by decide +kernel
theorem dX8_tellParts_33 : decode cX8_tellParts 33 = .ok (.lload 5, 2) := by decide +kernel
theorem dX8_tellParts_35 : decode cX8_tellParts 35 = .ok (.ldiv, 1) := by decide +kernel
theorem dX8_tellParts_36 : decode cX8_tellParts 36 = .ok (.putfield 243, 3) := by decide +kernel
theorem dX8_tellParts_39 : decode cX8_tellParts 39 = .ok (.aload_n 0, 1) := by decide +kernel
theorem dX8_tellParts_40 : decode cX8_tellParts 40 = .ok (.lload_n 3, 1) := by decide +kernel
theorem dX8_tellParts_41 : decode cX8_tellParts 41 = .ok (.lload 5, 2) := by decide +kernel
theorem dX8_tellParts_43 : decode cX8_tellParts 43 = .ok (.ldiv, 1) := by decide +kernel
theorem dX8_tellParts_44 : decode cX8_tellParts 44 = .ok (.putfield 37, 3) := by decide +kernel
theorem dX8_tellParts_47 : decode cX8_tellParts 47 = .ok (.iconst 1, 1) := by decide +kernel
theorem dX8_tellParts_48 : decode cX8_tellParts 48 = .ok (.ireturn, 1) := by decide +kernel
theorem dX8_tells_0 : decode cX8_tells 0 = .ok (.iload_n 1, 1) := by decide +kernel
theorem dX8_tells_1 : decode cX8_tells 1 = .ok (.i2l, 1) := by decide +kernel
theorem dX8_tells_2 : decode cX8_tells 2 = .ok (.lconst 0, 1) := by decide +kernel
theorem dX8_tells_3 : decode cX8_tells 3 = .ok (.ldc2_w 237, 3) := by decide +kernel
theorem dX8_tells_6 : decode cX8_tells 6 = .ok (.invokestatic 74, 3) := by decide +kernel
theorem dX8_tells_9 : decode cX8_tells 9 = .ok (.ifCond .ne 5, 3) := by decide +kernel
theorem dX8_tells_12 : decode cX8_tells 12 = .ok (.iconst (-1), 1) := by decide +kernel
theorem dX8_tells_13 : decode cX8_tells 13 = .ok (.ireturn, 1) := by decide +kernel
theorem dX8_tells_14 : decode cX8_tells 14 = .ok (.aload_n 0, 1) := by decide +kernel
theorem dX8_tells_15 : decode cX8_tells 15 = .ok (.getfield 157, 3) := by decide +kernel
theorem dX8_tells_18 : decode cX8_tells 18 = .ok (.ifCond .ne 6, 3) := by decide +kernel
theorem dX8_tells_21 : decode cX8_tells 21 = .ok (.bipush (-4), 2) := by decide +kernel
theorem dX8_tells_23 : decode cX8_tells 23 = .ok (.ireturn, 1) := by decide +kernel
theorem dX8_tells_24 : decode cX8_tells 24 = .ok (.lconst 0, 1) := by decide +kernel
theorem dX8_tells_25 : decode cX8_tells 25 = .ok (.lstore_n 2, 1) := by decide +kernel
theorem dX8_tells_26 : decode cX8_tells 26 = .ok (.lconst 0, 1) := by decide +kernel
theorem dX8_tells_27 : decode cX8_tells 27 = .ok (.lstore 4, 2) := by decide +kernel
theorem dX8_tells_29 : decode cX8_tells 29 = .ok (.iconst 0, 1) := by decide +kernel
theorem dX8_tells_30 : decode cX8_tells 30 = .ok (.istore 6, 2) := by decide +kernel
theorem dX8_tells_32 : decode cX8_tells 32 = .ok (.iload 6, 2) := by decide +kernel
theorem dX8_tells_34 : decode cX8_tells 34 = .ok (.aload_n 0, 1) := by decide +kernel
theorem dX8_tells_35 : decode cX8_tells 35 = .ok (.getfield 157, 3) := by decide +kernel
theorem dX8_tells_38 : decode cX8_tells 38 = .ok (.if_icmp .ge 47, 3) := by decide +kernel
theorem dX8_tells_41 : decode cX8_tells 41 = .ok (.aload_n 0, 1) := by decide +kernel
theorem dX8_tells_42 : decode cX8_tells 42 = .ok (.iload 6, 2) := by decide +kernel
theorem dX8_tells_44 : decode cX8_tells 44 = .ok (.invokevirtual 219, 3) := by decide +kernel
theorem dX8_tells_47 : decode cX8_tells 47 = .ok (.ifCond .ne 32, 3) := by decide +kernel
theorem dX8_tells_50 : decode cX8_tells 50 = .ok (.aload_n 0, 1) := by decide +kernel
theorem dX8_tells_51 : decode cX8_tells 51 = .ok (.iconst 0, 1) := by decide +kernel
theorem dX8_tells_52 : decode cX8_tells 52 = .ok (.iload 6, 2) := by decide +kernel
theorem dX8_tells_54 : decode cX8_tells 54 = .ok (.iload_n 1, 1) := by decide +kernel
theorem dX8_tells_55 : decode cX8_tells 55 = .ok (.invokevirtual 222, 3) := by decide +kernel
theorem dX8_tells_58 : decode cX8_tells 58 = .ok (.iconst 1, 1) := by decide +kernel
theorem dX8_tells_59 : decode cX8_tells 59 = .ok (.if_icmp .ne 20, 3) := by decide +kernel
theorem dX8_tells_62 : decode cX8_tells 62 = .ok (.lload_n 2, 1) := by decide +kernel
theorem dX8_tells_63 : decode cX8_tells 63 = .ok (.lconst 1, 1) := by decide +kernel
theorem dX8_tells_64 : decode cX8_tells 64 = .ok (.ladd, 1) := by decide +kernel
theorem dX8_tells_65 : decode cX8_tells 65 = .ok (.lstore_n 2, 1) := by decide +kernel
theorem dX8_tells_66 : decode cX8_tells 66 = .ok (.lload 4, 2) := by decide +kernel
theorem dX8_tells_68 : decode cX8_tells 68 = .ok (.aload_n 0, 1) := by decide +kernel
theorem dX8_tells_69 : decode cX8_tells 69 = .ok (.getfield 16, 3) := by decide +kernel
theorem dX8_tells_72 : decode cX8_tells 72 = .ok (.iload 6, 2) := by decide +kernel
theorem dX8_tells_74 : decode cX8_tells 74 = .ok (.iaload, 1) := by decide +kernel
theorem dX8_tells_75 : decode cX8_tells 75 = .ok (.i2l, 1) := by decide +kernel
theorem dX8_tells_76 : decode cX8_tells 76 = .ok (.ladd, 1) := by decide +kernel
theorem dX8_tells_77 : decode cX8_tells 77 = .ok (.lstore 4, 2) := by decide +kernel
theorem dX8_tells_79 : decode cX8_tells 79 = .ok (.iinc 6 1, 3) := by decide +kernel
theorem dX8_tells_82 : decode cX8_tells 82 = .ok (.goto (-50), 3) := by decide +kernel
theorem dX8_tells_85 : decode cX8_tells 85 = .ok (.lload_n 2, 1) := by decide +kernel
theorem dX8_tells_86 : decode cX8_tells 86 = .ok (.lconst 0, 1) := by decide +kernel
theorem dX8_tells_87 : decode cX8_tells 87 = .ok (.lcmp, 1) := by decide +kernel
theorem dX8_tells_88 : decode cX8_tells 88 = .ok (.ifCond .ne 12, 3) := by decide +kernel
theorem dX8_tells_91 : decode cX8_tells 91 = .ok (.aload_n 0, 1) := by decide +kernel
theorem dX8_tells_92 : decode cX8_tells 92 = .ok (.lconst 0, 1) := by decide +kernel
theorem dX8_tells_93 : decode cX8_tells 93 = .ok (.lconst 1, 1) := by decide +kernel
theorem dX8_tells_94 : decode cX8_tells 94 = .ok (.invokevirtual 246, 3) := by decide +kernel
theorem dX8_tells_97 : decode cX8_tells 97 = .ok (.goto 10, 3) := by decide +kernel
theorem dX8_tells_100 : decode cX8_tells 100 = .ok (.aload_n 0, 1) := by decide +kernel
theorem dX8_tells_101 : decode cX8_tells 101 = .ok (.lload 4, 2) := by decide +kernel
theorem dX8_tells_103 : decode cX8_tells 103 = .ok (.lload_n 2, 1) := by decide +kernel
theorem dX8_tells_104 : decode cX8_tells 104 = .ok (.invokevirtual 246, 3) := by decide +kernel
theorem dX8_tells_107 : decode cX8_tells 107 = .ok (.ireturn, 1) := by decide +kernel
theorem dX8_layTried_0 : decode cX8_layTried 0 = .ok (.iconst 0, 1) := by decide +kernel
theorem dX8_layTried_1 : decode cX8_layTried 1 = .ok (.istore_n 1, 1) := by decide +kernel
theorem dX8_layTried_2 : decode cX8_layTried 2 = .ok (.iload_n 1, 1) := by decide +kernel
theorem dX8_layTried_3 : decode cX8_layTried 3 = .ok (.bipush 17, 2) := by decide +kernel
theorem dX8_layTried_5 : decode cX8_layTried 5 = .ok (.if_icmp .ge 25, 3) := by decide +kernel
theorem dX8_layTried_8 : decode cX8_layTried 8 = .ok (.aload_n 0, 1) := by decide +kernel
theorem dX8_layTried_9 : decode cX8_layTried 9 = .ok (.getfield 7, 3) := by decide +kernel
theorem dX8_layTried_12 : decode cX8_layTried 12 = .ok (.sipush 2628, 3) := by decide +kernel
theorem dX8_layTried_15 : decode cX8_layTried 15 = .ok (.iload_n 1, 1) := by decide +kernel
theorem dX8_layTried_16 : decode cX8_layTried 16 = .ok (.iadd, 1) := by decide +kernel
theorem dX8_layTried_17 : decode cX8_layTried 17 = .ok (.aload_n 0, 1) := by decide +kernel
theorem dX8_layTried_18 : decode cX8_layTried 18 = .ok (.getfield 7, 3) := by decide +kernel
theorem dX8_layTried_21 : decode cX8_layTried 21 = .ok (.iload_n 1, 1) := by decide +kernel
theorem dX8_layTried_22 : decode cX8_layTried 22 = .ok (.iaload, 1) := by decide +kernel
theorem dX8_layTried_23 : decode cX8_layTried 23 = .ok (.iastore, 1) := by decide +kernel
theorem dX8_layTried_24 : decode cX8_layTried 24 = .ok (.iinc 1 1, 3) := by decide +kernel
theorem dX8_layTried_27 : decode cX8_layTried 27 = .ok (.goto (-25), 3) := by decide +kernel
theorem dX8_layTried_30 : decode cX8_layTried 30 = .ok (.return_, 1) := by decide +kernel
theorem dX8_layLine_0 : decode cX8_layLine 0 = .ok (.aload_n 0, 1) := by decide +kernel
theorem dX8_layLine_1 : decode cX8_layLine 1 = .ok (.iconst 0, 1) := by decide +kernel
theorem dX8_layLine_2 : decode cX8_layLine 2 = .ok (.putfield 250, 3) := by decide +kernel
theorem dX8_layLine_5 : decode cX8_layLine 5 = .ok (.iconst 0, 1) := by decide +kernel
theorem dX8_layLine_6 : decode cX8_layLine 6 = .ok (.istore_n 1, 1) := by decide +kernel
theorem dX8_layLine_7 : decode cX8_layLine 7 = .ok (.iload_n 1, 1) := by decide +kernel
theorem dX8_layLine_8 : decode cX8_layLine 8 = .ok (.aload_n 0, 1) := by decide +kernel
theorem dX8_layLine_9 : decode cX8_layLine 9 = .ok (.getfield 157, 3) := by decide +kernel
theorem dX8_layLine_12 : decode cX8_layLine 12 = .ok (.if_icmp .ge 37, 3) := by decide +kernel
theorem dX8_layLine_15 : decode cX8_layLine 15 = .ok (.aload_n 0, 1) := by decide +kernel
theorem dX8_layLine_16 : decode cX8_layLine 16 = .ok (.iload_n 1, 1) := by decide +kernel
theorem dX8_layLine_17 : decode cX8_layLine 17 = .ok (.invokevirtual 219, 3) := by decide +kernel
theorem dX8_layLine_20 : decode cX8_layLine 20 = .ok (.ifCond .ne 23, 3) := by decide +kernel
theorem dX8_layLine_23 : decode cX8_layLine 23 = .ok (.aload_n 0, 1) := by decide +kernel
theorem dX8_layLine_24 : decode cX8_layLine 24 = .ok (.getfield 50, 3) := by decide +kernel
theorem dX8_layLine_27 : decode cX8_layLine 27 = .ok (.aload_n 0, 1) := by decide +kernel
theorem dX8_layLine_28 : decode cX8_layLine 28 = .ok (.getfield 250, 3) := by decide +kernel
theorem dX8_layLine_31 : decode cX8_layLine 31 = .ok (.iload_n 1, 1) := by decide +kernel
theorem dX8_layLine_32 : decode cX8_layLine 32 = .ok (.iastore, 1) := by decide +kernel
theorem dX8_layLine_33 : decode cX8_layLine 33 = .ok (.aload_n 0, 1) := by decide +kernel
theorem dX8_layLine_34 : decode cX8_layLine 34 = .ok (.dup, 1) := by decide +kernel
theorem dX8_layLine_35 : decode cX8_layLine 35 = .ok (.getfield 250, 3) := by decide +kernel
theorem dX8_layLine_38 : decode cX8_layLine 38 = .ok (.iconst 1, 1) := by decide +kernel
theorem dX8_layLine_39 : decode cX8_layLine 39 = .ok (.iadd, 1) := by decide +kernel
theorem dX8_layLine_40 : decode cX8_layLine 40 = .ok (.putfield 250, 3) := by decide +kernel
theorem dX8_layLine_43 : decode cX8_layLine 43 = .ok (.iinc 1 1, 3) := by decide +kernel
theorem dX8_layLine_46 : decode cX8_layLine 46 = .ok (.goto (-39), 3) := by decide +kernel
theorem dX8_layLine_49 : decode cX8_layLine 49 = .ok (.return_, 1) := by decide +kernel
theorem dX8_swapLine_0 : decode cX8_swapLine 0 = .ok (.aload_n 0, 1) := by decide +kernel
theorem dX8_swapLine_1 : decode cX8_swapLine 1 = .ok (.getfield 50, 3) := by decide +kernel
theorem dX8_swapLine_4 : decode cX8_swapLine 4 = .ok (.iload_n 1, 1) := by decide +kernel
theorem dX8_swapLine_5 : decode cX8_swapLine 5 = .ok (.iaload, 1) := by decide +kernel
theorem dX8_swapLine_6 : decode cX8_swapLine 6 = .ok (.istore_n 3, 1) := by decide +kernel
theorem dX8_swapLine_7 : decode cX8_swapLine 7 = .ok (.aload_n 0, 1) := by decide +kernel
theorem dX8_swapLine_8 : decode cX8_swapLine 8 = .ok (.getfield 50, 3) := by decide +kernel
theorem dX8_swapLine_11 : decode cX8_swapLine 11 = .ok (.iload_n 1, 1) := by decide +kernel
theorem dX8_swapLine_12 : decode cX8_swapLine 12 = .ok (.aload_n 0, 1) := by decide +kernel
theorem dX8_swapLine_13 : decode cX8_swapLine 13 = .ok (.getfield 50, 3) := by decide +kernel
theorem dX8_swapLine_16 : decode cX8_swapLine 16 = .ok (.iload_n 2, 1) := by decide +kernel
theorem dX8_swapLine_17 : decode cX8_swapLine 17 = .ok (.iaload, 1) := by decide +kernel
theorem dX8_swapLine_18 : decode cX8_swapLine 18 = .ok (.iastore, 1) := by decide +kernel
theorem dX8_swapLine_19 : decode cX8_swapLine 19 = .ok (.aload_n 0, 1) := by decide +kernel
theorem dX8_swapLine_20 : decode cX8_swapLine 20 = .ok (.getfield 50, 3) := by decide +kernel
theorem dX8_swapLine_23 : decode cX8_swapLine 23 = .ok (.iload_n 2, 1) := by decide +kernel
theorem dX8_swapLine_24 : decode cX8_swapLine 24 = .ok (.iload_n 3, 1) := by decide +kernel
theorem dX8_swapLine_25 : decode cX8_swapLine 25 = .ok (.iastore, 1) := by decide +kernel
theorem dX8_swapLine_26 : decode cX8_swapLine 26 = .ok (.return_, 1) := by decide +kernel
theorem dX8_nextLine_0 : decode cX8_nextLine 0 = .ok (.aload_n 0, 1) := by decide +kernel
theorem dX8_nextLine_1 : decode cX8_nextLine 1 = .ok (.getfield 250, 3) := by decide +kernel
theorem dX8_nextLine_4 : decode cX8_nextLine 4 = .ok (.iconst 2, 1) := by decide +kernel
theorem dX8_nextLine_5 : decode cX8_nextLine 5 = .ok (.isub, 1) := by decide +kernel
theorem dX8_nextLine_6 : decode cX8_nextLine 6 = .ok (.istore_n 1, 1) := by decide +kernel
theorem dX8_nextLine_7 : decode cX8_nextLine 7 = .ok (.iload_n 1, 1) := by decide +kernel
theorem dX8_nextLine_8 : decode cX8_nextLine 8 = .ok (.ifCond .lt 26, 3) := by decide +kernel
theorem dX8_nextLine_11 : decode cX8_nextLine 11 = .ok (.aload_n 0, 1) := by decide +kernel
theorem dX8_nextLine_12 : decode cX8_nextLine 12 = .ok (.getfield 50, 3) := by decide +kernel
theorem dX8_nextLine_15 : decode cX8_nextLine 15 = .ok (.iload_n 1, 1) := by decide +kernel
theorem dX8_nextLine_16 : decode cX8_nextLine 16 = .ok (.iaload, 1) := by decide +kernel
theorem dX8_nextLine_17 : decode cX8_nextLine 17 = .ok (.aload_n 0, 1) := by decide +kernel
theorem dX8_nextLine_18 : decode cX8_nextLine 18 = .ok (.getfield 50, 3) := by decide +kernel
theorem dX8_nextLine_21 : decode cX8_nextLine 21 = .ok (.iload_n 1, 1) := by decide +kernel
theorem dX8_nextLine_22 : decode cX8_nextLine 22 = .ok (.iconst 1, 1) := by decide +kernel
theorem dX8_nextLine_23 : decode cX8_nextLine 23 = .ok (.iadd, 1) := by decide +kernel
theorem dX8_nextLine_24 : decode cX8_nextLine 24 = .ok (.iaload, 1) := by decide +kernel
theorem dX8_nextLine_25 : decode cX8_nextLine 25 = .ok (.if_icmp .le 9, 3) := by decide +kernel
theorem dX8_nextLine_28 : decode cX8_nextLine 28 = .ok (.iinc 1 (-1), 3) := by decide +kernel
theorem dX8_nextLine_31 : decode cX8_nextLine 31 = .ok (.goto (-24), 3) := by decide +kernel
theorem dX8_nextLine_34 : decode cX8_nextLine 34 = .ok (.iload_n 1, 1) := by decide +kernel
theorem dX8_nextLine_35 : decode cX8_nextLine 35 = .ok (.ifCond .ge 5, 3) := by decide +kernel
theorem dX8_nextLine_38 : decode cX8_nextLine 38 = .ok (.iconst 0, 1) := by decide +kernel
theorem dX8_nextLine_39 : decode cX8_nextLine 39 = .ok (.ireturn, 1) := by decide +kernel
theorem dX8_nextLine_40 : decode cX8_nextLine 40 = .ok (.aload_n 0, 1) := by decide +kernel
theorem dX8_nextLine_41 : decode cX8_nextLine 41 = .ok (.getfield 250, 3) := by decide +kernel
theorem dX8_nextLine_44 : decode cX8_nextLine 44 = .ok (.iconst 1, 1) := by decide +kernel
theorem dX8_nextLine_45 : decode cX8_nextLine 45 = .ok (.isub, 1) := by decide +kernel
theorem dX8_nextLine_46 : decode cX8_nextLine 46 = .ok (.istore_n 2, 1) := by decide +kernel
theorem dX8_nextLine_47 : decode cX8_nextLine 47 = .ok (.aload_n 0, 1) := by decide +kernel
theorem dX8_nextLine_48 : decode cX8_nextLine 48 = .ok (.getfield 50, 3) := by decide +kernel
theorem dX8_nextLine_51 : decode cX8_nextLine 51 = .ok (.iload_n 2, 1) := by decide +kernel
theorem dX8_nextLine_52 : decode cX8_nextLine 52 = .ok (.iaload, 1) := by decide +kernel
theorem dX8_nextLine_53 : decode cX8_nextLine 53 = .ok (.aload_n 0, 1) := by decide +kernel
theorem dX8_nextLine_54 : decode cX8_nextLine 54 = .ok (.getfield 50, 3) := by decide +kernel
theorem dX8_nextLine_57 : decode cX8_nextLine 57 = .ok (.iload_n 1, 1) := by decide +kernel
theorem dX8_nextLine_58 : decode cX8_nextLine 58 = .ok (.iaload, 1) := by decide +kernel
theorem dX8_nextLine_59 : decode cX8_nextLine 59 = .ok (.if_icmp .ge 9, 3) := by decide +kernel
theorem dX8_nextLine_62 : decode cX8_nextLine 62 = .ok (.iinc 2 (-1), 3) := by decide +kernel
theorem dX8_nextLine_65 : decode cX8_nextLine 65 = .ok (.goto (-18), 3) := by decide +kernel
theorem dX8_nextLine_68 : decode cX8_nextLine 68 = .ok (.aload_n 0, 1) := by decide +kernel
theorem dX8_nextLine_69 : decode cX8_nextLine 69 = .ok (.iload_n 1, 1) := by decide +kernel
theorem dX8_nextLine_70 : decode cX8_nextLine 70 = .ok (.iload_n 2, 1) := by decide +kernel
theorem dX8_nextLine_71 : decode cX8_nextLine 71 = .ok (.invokevirtual 253, 3) := by decide +kernel
theorem dX8_nextLine_74 : decode cX8_nextLine 74 = .ok (.iload_n 1, 1) := by decide +kernel
theorem dX8_nextLine_75 : decode cX8_nextLine 75 = .ok (.iconst 1, 1) := by decide +kernel
theorem dX8_nextLine_76 : decode cX8_nextLine 76 = .ok (.iadd, 1) := by decide +kernel
theorem dX8_nextLine_77 : decode cX8_nextLine 77 = .ok (.istore_n 3, 1) := by decide +kernel
theorem dX8_nextLine_78 : decode cX8_nextLine 78 = .ok (.aload_n 0, 1) := by decide +kernel
theorem dX8_nextLine_79 : decode cX8_nextLine 79 = .ok (.getfield 250, 3) := by decide +kernel
theorem dX8_nextLine_82 : decode cX8_nextLine 82 = .ok (.iconst 1, 1) := by decide +kernel
theorem dX8_nextLine_83 : decode cX8_nextLine 83 = .ok (.isub, 1) := by decide +kernel
theorem dX8_nextLine_84 : decode cX8_nextLine 84 = .ok (.istore 4, 2) := by decide +kernel
theorem dX8_nextLine_86 : decode cX8_nextLine 86 = .ok (.iload_n 3, 1) := by decide +kernel
theorem dX8_nextLine_87 : decode cX8_nextLine 87 = .ok (.iload 4, 2) := by decide +kernel
theorem dX8_nextLine_89 : decode cX8_nextLine 89 = .ok (.if_icmp .ge 19, 3) := by decide +kernel
theorem dX8_nextLine_92 : decode cX8_nextLine 92 = .ok (.aload_n 0, 1) := by decide +kernel
theorem dX8_nextLine_93 : decode cX8_nextLine 93 = .ok (.iload_n 3, 1) := by decide +kernel
theorem dX8_nextLine_94 : decode cX8_nextLine 94 = .ok (.iload 4, 2) := by decide +kernel
theorem dX8_nextLine_96 : decode cX8_nextLine 96 = .ok (.invokevirtual 253, 3) := by decide +kernel
theorem dX8_nextLine_99 : decode cX8_nextLine 99 = .ok (.iinc 3 1, 3) := by decide +kernel
theorem dX8_nextLine_102 : decode cX8_nextLine 102 = .ok (.iinc 4 (-1), 3) := by decide +kernel
theorem dX8_nextLine_105 : decode cX8_nextLine 105 = .ok (.goto (-19), 3) := by decide +kernel
theorem dX8_nextLine_108 : decode cX8_nextLine 108 = .ok (.iconst 1, 1) := by decide +kernel
theorem dX8_nextLine_109 : decode cX8_nextLine 109 = .ok (.ireturn, 1) := by decide +kernel
theorem dX8_wrongInLine_0 : decode cX8_wrongInLine 0 = .ok (.aload_n 0, 1) := by decide +kernel
theorem dX8_wrongInLine_1 : decode cX8_wrongInLine 1 = .ok (.invokevirtual 256, 3) := by decide +kernel
theorem dX8_wrongInLine_4 : decode cX8_wrongInLine 4 = .ok (.iconst 0, 1) := by decide +kernel
theorem dX8_wrongInLine_5 : decode cX8_wrongInLine 5 = .ok (.istore_n 1, 1) := by decide +kernel
theorem dX8_wrongInLine_6 : decode cX8_wrongInLine 6 = .ok (.iload_n 1, 1) := by decide +kernel
theorem dX8_wrongInLine_7 : decode cX8_wrongInLine 7 = .ok (.aload_n 0, 1) := by decide +kernel
theorem dX8_wrongInLine_8 : decode cX8_wrongInLine 8 = .ok (.getfield 250, 3) := by decide +kernel
theorem dX8_wrongInLine_11 : decode cX8_wrongInLine 11 = .ok (.if_icmp .ge 23, 3) := by decide +kernel
theorem dX8_wrongInLine_14 : decode cX8_wrongInLine 14 = .ok (.aload_n 0, 1) := by decide +kernel
theorem dX8_wrongInLine_15 : decode cX8_wrongInLine 15 = .ok (.sipush 2628, 3) := by decide +kernel
theorem dX8_wrongInLine_18 : decode cX8_wrongInLine 18 = .ok (.aload_n 0, 1) := by decide +kernel
theorem dX8_wrongInLine_19 : decode cX8_wrongInLine 19 = .ok (.getfield 50, 3) := by decide +kernel
theorem dX8_wrongInLine_22 : decode cX8_wrongInLine 22 = .ok (.iload_n 1, 1) := by decide +kernel
theorem dX8_wrongInLine_23 : decode cX8_wrongInLine 23 = .ok (.iaload, 1) := by decide +kernel
theorem dX8_wrongInLine_24 : decode cX8_wrongInLine 24 = .ok (.invokevirtual 229, 3) := by decide +kernel
theorem dX8_wrongInLine_27 : decode cX8_wrongInLine 27 = .ok (.pop, 1) := by decide +kernel
theorem dX8_wrongInLine_28 : decode cX8_wrongInLine 28 = .ok (.iinc 1 1, 3) := by decide +kernel
theorem dX8_wrongInLine_31 : decode cX8_wrongInLine 31 = .ok (.goto (-25), 3) := by decide +kernel
theorem dX8_wrongInLine_34 : decode cX8_wrongInLine 34 = .ok (.aload_n 0, 1) := by decide +kernel
theorem dX8_wrongInLine_35 : decode cX8_wrongInLine 35 = .ok (.getfield 7, 3) := by decide +kernel
theorem dX8_wrongInLine_38 : decode cX8_wrongInLine 38 = .ok (.sipush 2632, 3) := by decide +kernel
theorem dX8_wrongInLine_41 : decode cX8_wrongInLine 41 = .ok (.iaload, 1) := by decide +kernel
theorem dX8_wrongInLine_42 : decode cX8_wrongInLine 42 = .ok (.aload_n 0, 1) := by decide +kernel
theorem dX8_wrongInLine_43 : decode cX8_wrongInLine 43 = .ok (.getfield 7, 3) := by decide +kernel
theorem dX8_wrongInLine_46 : decode cX8_wrongInLine 46 = .ok (.iconst 4, 1) := by decide +kernel
theorem dX8_wrongInLine_47 : decode cX8_wrongInLine 47 = .ok (.iaload, 1) := by decide +kernel
theorem dX8_wrongInLine_48 : decode cX8_wrongInLine 48 = .ok (.isub, 1) := by decide +kernel
theorem dX8_wrongInLine_49 : decode cX8_wrongInLine 49 = .ok (.ireturn, 1) := by decide +kernel
theorem dX8_order_0 : decode cX8_order 0 = .ok (.iload_n 1, 1) := by decide +kernel
theorem dX8_order_1 : decode cX8_order 1 = .ok (.invokestatic 80, 3) := by decide +kernel
theorem dX8_order_4 : decode cX8_order 4 = .ok (.ifCond .ne 5, 3) := by decide +kernel
theorem dX8_order_7 : decode cX8_order 7 = .ok (.iconst (-1), 1) := by decide +kernel
theorem dX8_order_8 : decode cX8_order 8 = .ok (.ireturn, 1) := by decide +kernel
theorem dX8_order_9 : decode cX8_order 9 = .ok (.aload_n 0, 1) := by decide +kernel
theorem dX8_order_10 : decode cX8_order 10 = .ok (.getfield 157, 3) := by decide +kernel
theorem dX8_order_13 : decode cX8_order 13 = .ok (.ifCond .ne 6, 3) := by decide +kernel
theorem dX8_order_16 : decode cX8_order 16 = .ok (.bipush (-4), 2) := by decide +kernel
theorem dX8_order_18 : decode cX8_order 18 = .ok (.ireturn, 1) := by decide +kernel
theorem dX8_order_19 : decode cX8_order 19 = .ok (.sipush 999, 3) := by decide +kernel
theorem dX8_order_22 : decode cX8_order 22 = .ok (.istore_n 2, 1) := by decide +kernel
theorem dX8_order_23 : decode cX8_order 23 = .ok (.aload_n 0, 1) := by decide +kernel
theorem dX8_order_24 : decode cX8_order 24 = .ok (.invokevirtual 259, 3) := by decide +kernel
theorem dX8_order_27 : decode cX8_order 27 = .ok (.iconst 1, 1) := by decide +kernel
theorem dX8_order_28 : decode cX8_order 28 = .ok (.istore_n 3, 1) := by decide +kernel
theorem dX8_order_29 : decode cX8_order 29 = .ok (.iload_n 3, 1) := by decide +kernel
theorem dX8_order_30 : decode cX8_order 30 = .ok (.ifCond .eq 72, 3) := by decide +kernel
theorem dX8_order_33 : decode cX8_order 33 = .ok (.aload_n 0, 1) := by decide +kernel
theorem dX8_order_34 : decode cX8_order 34 = .ok (.invokevirtual 262, 3) := by decide +kernel
theorem dX8_order_37 : decode cX8_order 37 = .ok (.istore 4, 2) := by decide +kernel
theorem dX8_order_39 : decode cX8_order 39 = .ok (.iload 4, 2) := by decide +kernel
theorem dX8_order_41 : decode cX8_order 41 = .ok (.iload_n 2, 1) := by decide +kernel
theorem dX8_order_42 : decode cX8_order 42 = .ok (.if_icmp .ge 52, 3) := by decide +kernel
theorem dX8_order_45 : decode cX8_order 45 = .ok (.iload 4, 2) := by decide +kernel
theorem dX8_order_47 : decode cX8_order 47 = .ok (.istore_n 2, 1) := by decide +kernel
theorem dX8_order_48 : decode cX8_order 48 = .ok (.aload_n 0, 1) := by decide +kernel
theorem dX8_order_49 : decode cX8_order 49 = .ok (.iload_n 1, 1) := by decide +kernel
theorem dX8_order_50 : decode cX8_order 50 = .ok (.aload_n 0, 1) := by decide +kernel
theorem dX8_order_51 : decode cX8_order 51 = .ok (.getfield 250, 3) := by decide +kernel
theorem dX8_order_54 : decode cX8_order 54 = .ok (.invokevirtual 88, 3) := by decide +kernel
theorem dX8_order_57 : decode cX8_order 57 = .ok (.iconst 0, 1) := by decide +kernel
theorem dX8_order_58 : decode cX8_order 58 = .ok (.istore 5, 2) := by decide +kernel
theorem dX8_order_60 : decode cX8_order 60 = .ok (.iload 5, 2) := by decide +kernel
theorem dX8_order_62 : decode cX8_order 62 = .ok (.aload_n 0, 1) := by decide +kernel
theorem dX8_order_63 : decode cX8_order 63 = .ok (.getfield 250, 3) := by decide +kernel
theorem dX8_order_66 : decode cX8_order 66 = .ok (.if_icmp .ge 28, 3) := by decide +kernel
theorem dX8_order_69 : decode cX8_order 69 = .ok (.aload_n 0, 1) := by decide +kernel
theorem dX8_order_70 : decode cX8_order 70 = .ok (.getfield 28, 3) := by decide +kernel
theorem dX8_order_73 : decode cX8_order 73 = .ok (.bipush 40, 2) := by decide +kernel
theorem dX8_order_75 : decode cX8_order 75 = .ok (.iload_n 1, 1) := by decide +kernel
theorem dX8_order_76 : decode cX8_order 76 = .ok (.imul, 1) := by decide +kernel
theorem dX8_order_77 : decode cX8_order 77 = .ok (.iload 5, 2) := by decide +kernel
theorem dX8_order_79 : decode cX8_order 79 = .ok (.iadd, 1) := by decide +kernel
theorem dX8_order_80 : decode cX8_order 80 = .ok (.aload_n 0, 1) := by decide +kernel
theorem dX8_order_81 : decode cX8_order 81 = .ok (.getfield 50, 3) := by decide +kernel
theorem dX8_order_84 : decode cX8_order 84 = .ok (.iload 5, 2) := by decide +kernel
theorem dX8_order_86 : decode cX8_order 86 = .ok (.iaload, 1) := by decide +kernel
theorem dX8_order_87 : decode cX8_order 87 = .ok (.iastore, 1) := by decide +kernel
theorem dX8_order_88 : decode cX8_order 88 = .ok (.iinc 5 1, 3) := by decide +kernel
theorem dX8_order_91 : decode cX8_order 91 = .ok (.goto (-31), 3) := by decide +kernel
theorem dX8_order_94 : decode cX8_order 94 = .ok (.aload_n 0, 1) := by decide +kernel
theorem dX8_order_95 : decode cX8_order 95 = .ok (.invokevirtual 265, 3) := by decide +kernel
theorem dX8_order_98 : decode cX8_order 98 = .ok (.istore_n 3, 1) := by decide +kernel
theorem dX8_order_99 : decode cX8_order 99 = .ok (.goto (-70), 3) := by decide +kernel
theorem dX8_order_102 : decode cX8_order 102 = .ok (.iload_n 2, 1) := by decide +kernel
theorem dX8_order_103 : decode cX8_order 103 = .ok (.ireturn, 1) := by decide +kernel
theorem dX8_tried_0 : decode cX8_tried 0 = .ok (.iload_n 1, 1) := by decide +kernel
theorem dX8_tried_1 : decode cX8_tried 1 = .ok (.invokestatic 80, 3) := by decide +kernel
theorem dX8_tried_4 : decode cX8_tried 4 = .ok (.ifCond .ne 5, 3) := by decide +kernel
theorem dX8_tried_7 : decode cX8_tried 7 = .ok (.iconst (-1), 1) := by decide +kernel
theorem dX8_tried_8 : decode cX8_tried 8 = .ok (.ireturn, 1) := by decide +kernel
theorem dX8_tried_9 : decode cX8_tried 9 = .ok (.aload_n 0, 1) := by decide +kernel
theorem dX8_tried_10 : decode cX8_tried 10 = .ok (.getfield 157, 3) := by decide +kernel
theorem dX8_tried_13 : decode cX8_tried 13 = .ok (.ifCond .ne 6, 3) := by decide +kernel
theorem dX8_tried_16 : decode cX8_tried 16 = .ok (.bipush (-4), 2) := by decide +kernel
theorem dX8_tried_18 : decode cX8_tried 18 = .ok (.ireturn, 1) := by decide +kernel
theorem dX8_tried_19 : decode cX8_tried 19 = .ok (.aload_n 0, 1) := by decide +kernel
theorem dX8_tried_20 : decode cX8_tried 20 = .ok (.getfield 25, 3) := by decide +kernel
theorem dX8_tried_23 : decode cX8_tried 23 = .ok (.iload_n 1, 1) := by decide +kernel
theorem dX8_tried_24 : decode cX8_tried 24 = .ok (.iaload, 1) := by decide +kernel
theorem dX8_tried_25 : decode cX8_tried 25 = .ok (.ifCond .ge 9, 3) := by decide +kernel
theorem dX8_tried_28 : decode cX8_tried 28 = .ok (.aload_n 0, 1) := by decide +kernel
theorem dX8_tried_29 : decode cX8_tried 29 = .ok (.iconst 1, 1) := by decide +kernel
theorem dX8_tried_30 : decode cX8_tried 30 = .ok (.invokevirtual 84, 3) := by decide +kernel
theorem dX8_tried_33 : decode cX8_tried 33 = .ok (.ireturn, 1) := by decide +kernel
theorem dX8_tried_34 : decode cX8_tried 34 = .ok (.aload_n 0, 1) := by decide +kernel
theorem dX8_tried_35 : decode cX8_tried 35 = .ok (.getfield 25, 3) := by decide +kernel
theorem dX8_tried_38 : decode cX8_tried 38 = .ok (.iload_n 1, 1) := by decide +kernel
theorem dX8_tried_39 : decode cX8_tried 39 = .ok (.iaload, 1) := by decide +kernel
theorem dX8_tried_40 : decode cX8_tried 40 = .ok (.bipush 6, 2) := by decide +kernel
theorem dX8_tried_42 : decode cX8_tried 42 = .ok (.if_icmp .le 9, 3) := by decide +kernel
theorem dX8_tried_45 : decode cX8_tried 45 = .ok (.aload_n 0, 1) := by decide +kernel
theorem dX8_tried_46 : decode cX8_tried 46 = .ok (.iconst 5, 1) := by decide +kernel
theorem dX8_tried_47 : decode cX8_tried 47 = .ok (.invokevirtual 84, 3) := by decide +kernel
theorem dX8_tried_50 : decode cX8_tried 50 = .ok (.ireturn, 1) := by decide +kernel
theorem dX8_tried_51 : decode cX8_tried 51 = .ok (.aload_n 0, 1) := by decide +kernel
theorem dX8_tried_52 : decode cX8_tried 52 = .ok (.getfield 7, 3) := by decide +kernel
theorem dX8_tried_55 : decode cX8_tried 55 = .ok (.iconst 2, 1) := by decide +kernel
theorem dX8_tried_56 : decode cX8_tried 56 = .ok (.iaload, 1) := by decide +kernel
theorem dX8_tried_57 : decode cX8_tried 57 = .ok (.istore_n 2, 1) := by decide +kernel
theorem dX8_tried_58 : decode cX8_tried 58 = .ok (.iconst 0, 1) := by decide +kernel
theorem dX8_tried_59 : decode cX8_tried 59 = .ok (.istore_n 3, 1) := by decide +kernel
theorem dX8_tried_60 : decode cX8_tried 60 = .ok (.iload_n 3, 1) := by decide +kernel
theorem dX8_tried_61 : decode cX8_tried 61 = .ok (.aload_n 0, 1) := by decide +kernel
theorem dX8_tried_62 : decode cX8_tried 62 = .ok (.getfield 25, 3) := by decide +kernel
theorem dX8_tried_65 : decode cX8_tried 65 = .ok (.iload_n 1, 1) := by decide +kernel
theorem dX8_tried_66 : decode cX8_tried 66 = .ok (.iaload, 1) := by decide +kernel
theorem dX8_tried_67 : decode cX8_tried 67 = .ok (.if_icmp .ge 61, 3) := by decide +kernel
theorem dX8_tried_70 : decode cX8_tried 70 = .ok (.aload_n 0, 1) := by decide +kernel
theorem dX8_tried_71 : decode cX8_tried 71 = .ok (.getfield 28, 3) := by decide +kernel
theorem dX8_tried_74 : decode cX8_tried 74 = .ok (.bipush 40, 2) := by decide +kernel
theorem dX8_tried_76 : decode cX8_tried 76 = .ok (.iload_n 1, 1) := by decide +kernel
theorem dX8_tried_77 : decode cX8_tried 77 = .ok (.imul, 1) := by decide +kernel
theorem dX8_tried_78 : decode cX8_tried 78 = .ok (.iload_n 3, 1) := by decide +kernel
theorem dX8_tried_79 : decode cX8_tried 79 = .ok (.iadd, 1) := by decide +kernel
theorem dX8_tried_80 : decode cX8_tried 80 = .ok (.iaload, 1) := by decide +kernel
theorem dX8_tried_81 : decode cX8_tried 81 = .ok (.istore 4, 2) := by decide +kernel
theorem dX8_tried_83 : decode cX8_tried 83 = .ok (.aload_n 0, 1) := by decide +kernel
theorem dX8_tried_84 : decode cX8_tried 84 = .ok (.iload 4, 2) := by decide +kernel
theorem dX8_tried_86 : decode cX8_tried 86 = .ok (.invokevirtual 191, 3) := by decide +kernel
theorem dX8_tried_89 : decode cX8_tried 89 = .ok (.ifCond .eq 12, 3) := by decide +kernel
theorem dX8_tried_92 : decode cX8_tried 92 = .ok (.iload_n 2, 1) := by decide +kernel
theorem dX8_tried_93 : decode cX8_tried 93 = .ok (.iload 4, 2) := by decide +kernel
theorem dX8_tried_95 : decode cX8_tried 95 = .ok (.invokestatic 216, 3) := by decide +kernel
theorem dX8_tried_98 : decode cX8_tried 98 = .ok (.ifCond .eq 9, 3) := by decide +kernel
theorem dX8_tried_101 : decode cX8_tried 101 = .ok (.aload_n 0, 1) := by decide +kernel
theorem dX8_tried_102 : decode cX8_tried 102 = .ok (.iconst 3, 1) := by decide +kernel
theorem dX8_tried_103 : decode cX8_tried 103 = .ok (.invokevirtual 84, 3) := by decide +kernel
theorem dX8_tried_106 : decode cX8_tried 106 = .ok (.ireturn, 1) := by decide +kernel
theorem dX8_tried_107 : decode cX8_tried 107 = .ok (.iload_n 2, 1) := by decide +kernel
theorem dX8_tried_108 : decode cX8_tried 108 = .ok (.iconst 1, 1) := by decide +kernel
theorem dX8_tried_109 : decode cX8_tried 109 = .ok (.iload 4, 2) := by decide +kernel
theorem dX8_tried_111 : decode cX8_tried 111 = .ok (.ishl, 1) := by decide +kernel
theorem dX8_tried_112 : decode cX8_tried 112 = .ok (.ior, 1) := by decide +kernel
theorem dX8_tried_113 : decode cX8_tried 113 = .ok (.istore_n 2, 1) := by decide +kernel
theorem dX8_tried_114 : decode cX8_tried 114 = .ok (.aload_n 0, 1) := by decide +kernel
theorem dX8_tried_115 : decode cX8_tried 115 = .ok (.getfield 50, 3) := by decide +kernel
theorem dX8_tried_118 : decode cX8_tried 118 = .ok (.iload_n 3, 1) := by decide +kernel
theorem dX8_tried_119 : decode cX8_tried 119 = .ok (.iload 4, 2) := by decide +kernel
theorem dX8_tried_121 : decode cX8_tried 121 = .ok (.iastore, 1) := by decide +kernel
theorem dX8_tried_122 : decode cX8_tried 122 = .ok (.iinc 3 1, 3) := by decide +kernel
theorem dX8_tried_125 : decode cX8_tried 125 = .ok (.goto (-65), 3) := by decide +kernel
theorem dX8_tried_128 : decode cX8_tried 128 = .ok (.aload_n 0, 1) := by decide +kernel
theorem dX8_tried_129 : decode cX8_tried 129 = .ok (.aload_n 0, 1) := by decide +kernel
theorem dX8_tried_130 : decode cX8_tried 130 = .ok (.getfield 25, 3) := by decide +kernel
theorem dX8_tried_133 : decode cX8_tried 133 = .ok (.iload_n 1, 1) := by decide +kernel
theorem dX8_tried_134 : decode cX8_tried 134 = .ok (.iaload, 1) := by decide +kernel
theorem dX8_tried_135 : decode cX8_tried 135 = .ok (.putfield 250, 3) := by decide +kernel
theorem dX8_tried_138 : decode cX8_tried 138 = .ok (.aload_n 0, 1) := by decide +kernel
theorem dX8_tried_139 : decode cX8_tried 139 = .ok (.invokevirtual 262, 3) := by decide +kernel
theorem dX8_tried_142 : decode cX8_tried 142 = .ok (.istore_n 3, 1) := by decide +kernel
theorem dX8_tried_143 : decode cX8_tried 143 = .ok (.aload_n 0, 1) := by decide +kernel
theorem dX8_tried_144 : decode cX8_tried 144 = .ok (.aload_n 0, 1) := by decide +kernel
theorem dX8_tried_145 : decode cX8_tried 145 = .ok (.getfield 7, 3) := by decide +kernel
theorem dX8_tried_148 : decode cX8_tried 148 = .ok (.sipush 2629, 3) := by decide +kernel
theorem dX8_tried_151 : decode cX8_tried 151 = .ok (.iaload, 1) := by decide +kernel
theorem dX8_tried_152 : decode cX8_tried 152 = .ok (.putfield 69, 3) := by decide +kernel
theorem dX8_tried_155 : decode cX8_tried 155 = .ok (.iload_n 3, 1) := by decide +kernel
theorem dX8_tried_156 : decode cX8_tried 156 = .ok (.ireturn, 1) := by decide +kernel
theorem dX8_least_0 : decode cX8_least 0 = .ok (.aload_n 0, 1) := by decide +kernel
theorem dX8_least_1 : decode cX8_least 1 = .ok (.getfield 157, 3) := by decide +kernel
theorem dX8_least_4 : decode cX8_least 4 = .ok (.ifCond .ne 6, 3) := by decide +kernel
theorem dX8_least_7 : decode cX8_least 7 = .ok (.bipush (-4), 2) := by decide +kernel
theorem dX8_least_9 : decode cX8_least 9 = .ok (.ireturn, 1) := by decide +kernel
theorem dX8_least_10 : decode cX8_least 10 = .ok (.iconst 0, 1) := by decide +kernel
theorem dX8_least_11 : decode cX8_least 11 = .ok (.istore_n 1, 1) := by decide +kernel
theorem dX8_least_12 : decode cX8_least 12 = .ok (.iconst 0, 1) := by decide +kernel
theorem dX8_least_13 : decode cX8_least 13 = .ok (.istore_n 2, 1) := by decide +kernel
theorem dX8_least_14 : decode cX8_least 14 = .ok (.iconst 0, 1) := by decide +kernel
theorem dX8_least_15 : decode cX8_least 15 = .ok (.istore_n 3, 1) := by decide +kernel
theorem dX8_least_16 : decode cX8_least 16 = .ok (.iload_n 3, 1) := by decide +kernel
theorem dX8_least_17 : decode cX8_least 17 = .ok (.aload_n 0, 1) := by decide +kernel
theorem dX8_least_18 : decode cX8_least 18 = .ok (.getfield 157, 3) := by decide +kernel
theorem dX8_least_21 : decode cX8_least 21 = .ok (.if_icmp .ge 103, 3) := by decide +kernel
theorem dX8_least_24 : decode cX8_least 24 = .ok (.aload_n 0, 1) := by decide +kernel
theorem dX8_least_25 : decode cX8_least 25 = .ok (.iload_n 3, 1) := by decide +kernel
theorem dX8_least_26 : decode cX8_least 26 = .ok (.invokevirtual 219, 3) := by decide +kernel
theorem dX8_least_29 : decode cX8_least 29 = .ok (.ifCond .ne 89, 3) := by decide +kernel
theorem dX8_least_32 : decode cX8_least 32 = .ok (.aload_n 0, 1) := by decide +kernel
theorem dX8_least_33 : decode cX8_least 33 = .ok (.getfield 16, 3) := by decide +kernel
theorem dX8_least_36 : decode cX8_least 36 = .ok (.iload_n 3, 1) := by decide +kernel
theorem dX8_least_37 : decode cX8_least 37 = .ok (.iaload, 1) := by decide +kernel
theorem dX8_least_38 : decode cX8_least 38 = .ok (.ifCond .ne 80, 3) := by decide +kernel
theorem dX8_least_41 : decode cX8_least 41 = .ok (.aload_n 0, 1) := by decide +kernel
theorem dX8_least_42 : decode cX8_least 42 = .ok (.iload_n 3, 1) := by decide +kernel
theorem dX8_least_43 : decode cX8_least 43 = .ok (.aload_n 0, 1) := by decide +kernel
theorem dX8_least_44 : decode cX8_least 44 = .ok (.getfield 7, 3) := by decide +kernel
theorem dX8_least_47 : decode cX8_least 47 = .ok (.iconst 1, 1) := by decide +kernel
theorem dX8_least_48 : decode cX8_least 48 = .ok (.iaload, 1) := by decide +kernel
theorem dX8_least_49 : decode cX8_least 49 = .ok (.invokevirtual 185, 3) := by decide +kernel
theorem dX8_least_52 : decode cX8_least 52 = .ok (.ifCond .eq 66, 3) := by decide +kernel
theorem dX8_least_55 : decode cX8_least 55 = .ok (.aload_n 0, 1) := by decide +kernel
end
section
theorem dX8_least_56 : decode cX8_least 56 = .ok (.iload_n 3, 1) := by decide +kernel
theorem dX8_least_57 : decode cX8_least 57 = .ok (.aload_n 0, 1) := by decide +kernel
theorem dX8_least_58 : decode cX8_least 58 = .ok (.getfield 7, 3) := by decide +kernel
theorem dX8_least_61 : decode cX8_least 61 = .ok (.iconst 1, 1) := by decide +kernel
theorem dX8_least_62 : decode cX8_least 62 = .ok (.iaload, 1) := by decide +kernel
theorem dX8_least_63 : decode cX8_least 63 = .ok (.invokevirtual 179, 3) := by decide +kernel
theorem dX8_least_66 : decode cX8_least 66 = .ok (.aload_n 0, 1) := by decide +kernel
theorem dX8_least_67 : decode cX8_least 67 = .ok (.iconst 0, 1) := by decide +kernel
theorem dX8_least_68 : decode cX8_least 68 = .ok (.iload_n 3, 1) := by decide +kernel
theorem dX8_least_69 : decode cX8_least 69 = .ok (.invokevirtual 182, 3) := by decide +kernel
theorem dX8_least_72 : decode cX8_least 72 = .ok (.isub, 1) := by decide +kernel
theorem dX8_least_73 : decode cX8_least 73 = .ok (.invokestatic 163, 3) := by decide +kernel
theorem dX8_least_76 : decode cX8_least 76 = .ok (.iconst 1, 1) := by decide +kernel
theorem dX8_least_77 : decode cX8_least 77 = .ok (.iadd, 1) := by decide +kernel
theorem dX8_least_78 : decode cX8_least 78 = .ok (.iconst 2, 1) := by decide +kernel
theorem dX8_least_79 : decode cX8_least 79 = .ok (.idiv, 1) := by decide +kernel
theorem dX8_least_80 : decode cX8_least 80 = .ok (.istore 4, 2) := by decide +kernel
theorem dX8_least_82 : decode cX8_least 82 = .ok (.aload_n 0, 1) := by decide +kernel
theorem dX8_least_83 : decode cX8_least 83 = .ok (.getfield 7, 3) := by decide +kernel
theorem dX8_least_86 : decode cX8_least 86 = .ok (.iconst 5, 1) := by decide +kernel
theorem dX8_least_87 : decode cX8_least 87 = .ok (.iload_n 3, 1) := by decide +kernel
theorem dX8_least_88 : decode cX8_least 88 = .ok (.iadd, 1) := by decide +kernel
theorem dX8_least_89 : decode cX8_least 89 = .ok (.iaload, 1) := by decide +kernel
theorem dX8_least_90 : decode cX8_least 90 = .ok (.iload 4, 2) := by decide +kernel
theorem dX8_least_92 : decode cX8_least 92 = .ok (.iadd, 1) := by decide +kernel
theorem dX8_least_93 : decode cX8_least 93 = .ok (.iconst 3, 1) := by decide +kernel
theorem dX8_least_94 : decode cX8_least 94 = .ok (.if_icmp .le 6, 3) := by decide +kernel
theorem dX8_least_97 : decode cX8_least 97 = .ok (.bipush (-9), 2) := by decide +kernel
theorem dX8_least_99 : decode cX8_least 99 = .ok (.ireturn, 1) := by decide +kernel
theorem dX8_least_100 : decode cX8_least 100 = .ok (.iload_n 1, 1) := by decide +kernel
theorem dX8_least_101 : decode cX8_least 101 = .ok (.iload 4, 2) := by decide +kernel
theorem dX8_least_103 : decode cX8_least 103 = .ok (.iadd, 1) := by decide +kernel
theorem dX8_least_104 : decode cX8_least 104 = .ok (.istore_n 1, 1) := by decide +kernel
theorem dX8_least_105 : decode cX8_least 105 = .ok (.iload_n 2, 1) := by decide +kernel
theorem dX8_least_106 : decode cX8_least 106 = .ok (.iload 4, 2) := by decide +kernel
theorem dX8_least_108 : decode cX8_least 108 = .ok (.ifCond .le 7, 3) := by decide +kernel
theorem dX8_least_111 : decode cX8_least 111 = .ok (.iconst 1, 1) := by decide +kernel
theorem dX8_least_112 : decode cX8_least 112 = .ok (.goto 4, 3) := by decide +kernel
theorem dX8_least_115 : decode cX8_least 115 = .ok (.iconst 0, 1) := by decide +kernel
theorem dX8_least_116 : decode cX8_least 116 = .ok (.iadd, 1) := by decide +kernel
theorem dX8_least_117 : decode cX8_least 117 = .ok (.istore_n 2, 1) := by decide +kernel
theorem dX8_least_118 : decode cX8_least 118 = .ok (.iinc 3 1, 3) := by decide +kernel
theorem dX8_least_121 : decode cX8_least 121 = .ok (.goto (-105), 3) := by decide +kernel
theorem dX8_least_124 : decode cX8_least 124 = .ok (.aload_n 0, 1) := by decide +kernel
theorem dX8_least_125 : decode cX8_least 125 = .ok (.iload_n 2, 1) := by decide +kernel
theorem dX8_least_126 : decode cX8_least 126 = .ok (.putfield 69, 3) := by decide +kernel
theorem dX8_least_129 : decode cX8_least 129 = .ok (.iload_n 1, 1) := by decide +kernel
theorem dX8_least_130 : decode cX8_least 130 = .ok (.ireturn, 1) := by decide +kernel
theorem dX8_noPairs_0 : decode cX8_noPairs 0 = .ok (.aload_n 0, 1) := by decide +kernel
theorem dX8_noPairs_1 : decode cX8_noPairs 1 = .ok (.getfield 25, 3) := by decide +kernel
theorem dX8_noPairs_4 : decode cX8_noPairs 4 = .ok (.iload_n 1, 1) := by decide +kernel
theorem dX8_noPairs_5 : decode cX8_noPairs 5 = .ok (.iaload, 1) := by decide +kernel
theorem dX8_noPairs_6 : decode cX8_noPairs 6 = .ok (.ifCond .ge 9, 3) := by decide +kernel
theorem dX8_noPairs_9 : decode cX8_noPairs 9 = .ok (.aload_n 0, 1) := by decide +kernel
theorem dX8_noPairs_10 : decode cX8_noPairs 10 = .ok (.iconst 1, 1) := by decide +kernel
theorem dX8_noPairs_11 : decode cX8_noPairs 11 = .ok (.invokevirtual 84, 3) := by decide +kernel
theorem dX8_noPairs_14 : decode cX8_noPairs 14 = .ok (.ireturn, 1) := by decide +kernel
theorem dX8_noPairs_15 : decode cX8_noPairs 15 = .ok (.aload_n 0, 1) := by decide +kernel
theorem dX8_noPairs_16 : decode cX8_noPairs 16 = .ok (.getfield 25, 3) := by decide +kernel
theorem dX8_noPairs_19 : decode cX8_noPairs 19 = .ok (.iload_n 1, 1) := by decide +kernel
theorem dX8_noPairs_20 : decode cX8_noPairs 20 = .ok (.iaload, 1) := by decide +kernel
theorem dX8_noPairs_21 : decode cX8_noPairs 21 = .ok (.iconst 2, 1) := by decide +kernel
theorem dX8_noPairs_22 : decode cX8_noPairs 22 = .ok (.irem, 1) := by decide +kernel
theorem dX8_noPairs_23 : decode cX8_noPairs 23 = .ok (.ifCond .eq 9, 3) := by decide +kernel
theorem dX8_noPairs_26 : decode cX8_noPairs 26 = .ok (.aload_n 0, 1) := by decide +kernel
theorem dX8_noPairs_27 : decode cX8_noPairs 27 = .ok (.iconst 5, 1) := by decide +kernel
theorem dX8_noPairs_28 : decode cX8_noPairs 28 = .ok (.invokevirtual 84, 3) := by decide +kernel
theorem dX8_noPairs_31 : decode cX8_noPairs 31 = .ok (.ireturn, 1) := by decide +kernel
theorem dX8_noPairs_32 : decode cX8_noPairs 32 = .ok (.iconst 1, 1) := by decide +kernel
theorem dX8_noPairs_33 : decode cX8_noPairs 33 = .ok (.istore_n 3, 1) := by decide +kernel
theorem dX8_noPairs_34 : decode cX8_noPairs 34 = .ok (.bipush 40, 2) := by decide +kernel
theorem dX8_noPairs_36 : decode cX8_noPairs 36 = .ok (.iload_n 1, 1) := by decide +kernel
theorem dX8_noPairs_37 : decode cX8_noPairs 37 = .ok (.imul, 1) := by decide +kernel
theorem dX8_noPairs_38 : decode cX8_noPairs 38 = .ok (.istore 4, 2) := by decide +kernel
theorem dX8_noPairs_40 : decode cX8_noPairs 40 = .ok (.iload 4, 2) := by decide +kernel
theorem dX8_noPairs_42 : decode cX8_noPairs 42 = .ok (.bipush 40, 2) := by decide +kernel
theorem dX8_noPairs_44 : decode cX8_noPairs 44 = .ok (.iload_n 1, 1) := by decide +kernel
theorem dX8_noPairs_45 : decode cX8_noPairs 45 = .ok (.imul, 1) := by decide +kernel
theorem dX8_noPairs_46 : decode cX8_noPairs 46 = .ok (.aload_n 0, 1) := by decide +kernel
theorem dX8_noPairs_47 : decode cX8_noPairs 47 = .ok (.getfield 25, 3) := by decide +kernel
theorem dX8_noPairs_50 : decode cX8_noPairs 50 = .ok (.iload_n 1, 1) := by decide +kernel
theorem dX8_noPairs_51 : decode cX8_noPairs 51 = .ok (.iaload, 1) := by decide +kernel
theorem dX8_noPairs_52 : decode cX8_noPairs 52 = .ok (.iadd, 1) := by decide +kernel
theorem dX8_noPairs_53 : decode cX8_noPairs 53 = .ok (.if_icmp .ge 56, 3) := by decide +kernel
theorem dX8_noPairs_56 : decode cX8_noPairs 56 = .ok (.iload_n 3, 1) := by decide +kernel
theorem dX8_noPairs_57 : decode cX8_noPairs 57 = .ok (.ifCond .eq 44, 3) := by decide +kernel
theorem dX8_noPairs_60 : decode cX8_noPairs 60 = .ok (.aload_n 0, 1) := by decide +kernel
theorem dX8_noPairs_61 : decode cX8_noPairs 61 = .ok (.getfield 28, 3) := by decide +kernel
theorem dX8_noPairs_64 : decode cX8_noPairs 64 = .ok (.iload 4, 2) := by decide +kernel
theorem dX8_noPairs_66 : decode cX8_noPairs 66 = .ok (.iaload, 1) := by decide +kernel
theorem dX8_noPairs_67 : decode cX8_noPairs 67 = .ok (.i2l, 1) := by decide +kernel
theorem dX8_noPairs_68 : decode cX8_noPairs 68 = .ok (.lconst 0, 1) := by decide +kernel
theorem dX8_noPairs_69 : decode cX8_noPairs 69 = .ok (.iload_n 2, 1) := by decide +kernel
theorem dX8_noPairs_70 : decode cX8_noPairs 70 = .ok (.i2l, 1) := by decide +kernel
theorem dX8_noPairs_71 : decode cX8_noPairs 71 = .ok (.invokestatic 74, 3) := by decide +kernel
theorem dX8_noPairs_74 : decode cX8_noPairs 74 = .ok (.ifCond .eq 27, 3) := by decide +kernel
theorem dX8_noPairs_77 : decode cX8_noPairs 77 = .ok (.aload_n 0, 1) := by decide +kernel
theorem dX8_noPairs_78 : decode cX8_noPairs 78 = .ok (.getfield 28, 3) := by decide +kernel
theorem dX8_noPairs_81 : decode cX8_noPairs 81 = .ok (.iload 4, 2) := by decide +kernel
theorem dX8_noPairs_83 : decode cX8_noPairs 83 = .ok (.iconst 1, 1) := by decide +kernel
theorem dX8_noPairs_84 : decode cX8_noPairs 84 = .ok (.iadd, 1) := by decide +kernel
theorem dX8_noPairs_85 : decode cX8_noPairs 85 = .ok (.iaload, 1) := by decide +kernel
theorem dX8_noPairs_86 : decode cX8_noPairs 86 = .ok (.i2l, 1) := by decide +kernel
theorem dX8_noPairs_87 : decode cX8_noPairs 87 = .ok (.lconst 0, 1) := by decide +kernel
theorem dX8_noPairs_88 : decode cX8_noPairs 88 = .ok (.ldc2_w 232, 3) := by decide +kernel
theorem dX8_noPairs_91 : decode cX8_noPairs 91 = .ok (.invokestatic 74, 3) := by decide +kernel
theorem dX8_noPairs_94 : decode cX8_noPairs 94 = .ok (.ifCond .eq 7, 3) := by decide +kernel
theorem dX8_noPairs_97 : decode cX8_noPairs 97 = .ok (.iconst 1, 1) := by decide +kernel
theorem dX8_noPairs_98 : decode cX8_noPairs 98 = .ok (.goto 4, 3) := by decide +kernel
theorem dX8_noPairs_101 : decode cX8_noPairs 101 = .ok (.iconst 0, 1) := by decide +kernel
theorem dX8_noPairs_102 : decode cX8_noPairs 102 = .ok (.istore_n 3, 1) := by decide +kernel
theorem dX8_noPairs_103 : decode cX8_noPairs 103 = .ok (.iinc 4 2, 3) := by decide +kernel
theorem dX8_noPairs_106 : decode cX8_noPairs 106 = .ok (.goto (-66), 3) := by decide +kernel
theorem dX8_noPairs_109 : decode cX8_noPairs 109 = .ok (.iload_n 3, 1) := by decide +kernel
theorem dX8_noPairs_110 : decode cX8_noPairs 110 = .ok (.ifCond .eq 7, 3) := by decide +kernel
theorem dX8_noPairs_113 : decode cX8_noPairs 113 = .ok (.iconst 0, 1) := by decide +kernel
theorem dX8_noPairs_114 : decode cX8_noPairs 114 = .ok (.goto 8, 3) := by decide +kernel
theorem dX8_noPairs_117 : decode cX8_noPairs 117 = .ok (.aload_n 0, 1) := by decide +kernel
theorem dX8_noPairs_118 : decode cX8_noPairs 118 = .ok (.iconst 3, 1) := by decide +kernel
theorem dX8_noPairs_119 : decode cX8_noPairs 119 = .ok (.invokevirtual 84, 3) := by decide +kernel
theorem dX8_noPairs_122 : decode cX8_noPairs 122 = .ok (.ireturn, 1) := by decide +kernel
theorem dX8_fitting_0 : decode cX8_fitting 0 = .ok (.iconst 0, 1) := by decide +kernel
theorem dX8_fitting_1 : decode cX8_fitting 1 = .ok (.istore_n 2, 1) := by decide +kernel
theorem dX8_fitting_2 : decode cX8_fitting 2 = .ok (.iconst 0, 1) := by decide +kernel
theorem dX8_fitting_3 : decode cX8_fitting 3 = .ok (.istore_n 3, 1) := by decide +kernel
theorem dX8_fitting_4 : decode cX8_fitting 4 = .ok (.iload_n 3, 1) := by decide +kernel
theorem dX8_fitting_5 : decode cX8_fitting 5 = .ok (.bipush 31, 2) := by decide +kernel
theorem dX8_fitting_7 : decode cX8_fitting 7 = .ok (.if_icmp .ge 92, 3) := by decide +kernel
theorem dX8_fitting_10 : decode cX8_fitting 10 = .ok (.iconst 1, 1) := by decide +kernel
theorem dX8_fitting_11 : decode cX8_fitting 11 = .ok (.istore 4, 2) := by decide +kernel
theorem dX8_fitting_13 : decode cX8_fitting 13 = .ok (.bipush 40, 2) := by decide +kernel
theorem dX8_fitting_15 : decode cX8_fitting 15 = .ok (.iload_n 1, 1) := by decide +kernel
theorem dX8_fitting_16 : decode cX8_fitting 16 = .ok (.imul, 1) := by decide +kernel
theorem dX8_fitting_17 : decode cX8_fitting 17 = .ok (.istore 5, 2) := by decide +kernel
theorem dX8_fitting_19 : decode cX8_fitting 19 = .ok (.iload 5, 2) := by decide +kernel
theorem dX8_fitting_21 : decode cX8_fitting 21 = .ok (.bipush 40, 2) := by decide +kernel
theorem dX8_fitting_23 : decode cX8_fitting 23 = .ok (.iload_n 1, 1) := by decide +kernel
theorem dX8_fitting_24 : decode cX8_fitting 24 = .ok (.imul, 1) := by decide +kernel
theorem dX8_fitting_25 : decode cX8_fitting 25 = .ok (.aload_n 0, 1) := by decide +kernel
theorem dX8_fitting_26 : decode cX8_fitting 26 = .ok (.getfield 25, 3) := by decide +kernel
theorem dX8_fitting_29 : decode cX8_fitting 29 = .ok (.iload_n 1, 1) := by decide +kernel
theorem dX8_fitting_30 : decode cX8_fitting 30 = .ok (.iaload, 1) := by decide +kernel
theorem dX8_fitting_31 : decode cX8_fitting 31 = .ok (.iadd, 1) := by decide +kernel
theorem dX8_fitting_32 : decode cX8_fitting 32 = .ok (.if_icmp .ge 46, 3) := by decide +kernel
theorem dX8_fitting_35 : decode cX8_fitting 35 = .ok (.iload 4, 2) := by decide +kernel
theorem dX8_fitting_37 : decode cX8_fitting 37 = .ok (.ifCond .eq 32, 3) := by decide +kernel
theorem dX8_fitting_40 : decode cX8_fitting 40 = .ok (.aload_n 0, 1) := by decide +kernel
theorem dX8_fitting_41 : decode cX8_fitting 41 = .ok (.iconst 0, 1) := by decide +kernel
theorem dX8_fitting_42 : decode cX8_fitting 42 = .ok (.aload_n 0, 1) := by decide +kernel
theorem dX8_fitting_43 : decode cX8_fitting 43 = .ok (.getfield 28, 3) := by decide +kernel
theorem dX8_fitting_46 : decode cX8_fitting 46 = .ok (.iload 5, 2) := by decide +kernel
theorem dX8_fitting_48 : decode cX8_fitting 48 = .ok (.iaload, 1) := by decide +kernel
theorem dX8_fitting_49 : decode cX8_fitting 49 = .ok (.iload_n 3, 1) := by decide +kernel
theorem dX8_fitting_50 : decode cX8_fitting 50 = .ok (.invokevirtual 222, 3) := by decide +kernel
theorem dX8_fitting_53 : decode cX8_fitting 53 = .ok (.aload_n 0, 1) := by decide +kernel
theorem dX8_fitting_54 : decode cX8_fitting 54 = .ok (.getfield 28, 3) := by decide +kernel
theorem dX8_fitting_57 : decode cX8_fitting 57 = .ok (.iload 5, 2) := by decide +kernel
theorem dX8_fitting_59 : decode cX8_fitting 59 = .ok (.iconst 1, 1) := by decide +kernel
theorem dX8_fitting_60 : decode cX8_fitting 60 = .ok (.iadd, 1) := by decide +kernel
theorem dX8_fitting_61 : decode cX8_fitting 61 = .ok (.iaload, 1) := by decide +kernel
theorem dX8_fitting_62 : decode cX8_fitting 62 = .ok (.if_icmp .ne 7, 3) := by decide +kernel
theorem dX8_fitting_65 : decode cX8_fitting 65 = .ok (.iconst 1, 1) := by decide +kernel
theorem dX8_fitting_66 : decode cX8_fitting 66 = .ok (.goto 4, 3) := by decide +kernel
theorem dX8_fitting_69 : decode cX8_fitting 69 = .ok (.iconst 0, 1) := by decide +kernel
theorem dX8_fitting_70 : decode cX8_fitting 70 = .ok (.istore 4, 2) := by decide +kernel
theorem dX8_fitting_72 : decode cX8_fitting 72 = .ok (.iinc 5 2, 3) := by decide +kernel
theorem dX8_fitting_75 : decode cX8_fitting 75 = .ok (.goto (-56), 3) := by decide +kernel
theorem dX8_fitting_78 : decode cX8_fitting 78 = .ok (.iload_n 2, 1) := by decide +kernel
theorem dX8_fitting_79 : decode cX8_fitting 79 = .ok (.iload 4, 2) := by decide +kernel
theorem dX8_fitting_81 : decode cX8_fitting 81 = .ok (.ifCond .eq 9, 3) := by decide +kernel
theorem dX8_fitting_84 : decode cX8_fitting 84 = .ok (.iconst 1, 1) := by decide +kernel
theorem dX8_fitting_85 : decode cX8_fitting 85 = .ok (.iload_n 3, 1) := by decide +kernel
theorem dX8_fitting_86 : decode cX8_fitting 86 = .ok (.ishl, 1) := by decide +kernel
theorem dX8_fitting_87 : decode cX8_fitting 87 = .ok (.goto 4, 3) := by decide +kernel
theorem dX8_fitting_90 : decode cX8_fitting 90 = .ok (.iconst 0, 1) := by decide +kernel
theorem dX8_fitting_91 : decode cX8_fitting 91 = .ok (.ior, 1) := by decide +kernel
theorem dX8_fitting_92 : decode cX8_fitting 92 = .ok (.istore_n 2, 1) := by decide +kernel
theorem dX8_fitting_93 : decode cX8_fitting 93 = .ok (.iinc 3 1, 3) := by decide +kernel
theorem dX8_fitting_96 : decode cX8_fitting 96 = .ok (.goto (-92), 3) := by decide +kernel
theorem dX8_fitting_99 : decode cX8_fitting 99 = .ok (.iload_n 2, 1) := by decide +kernel
theorem dX8_fitting_100 : decode cX8_fitting 100 = .ok (.ireturn, 1) := by decide +kernel
theorem dX8_fits_0 : decode cX8_fits 0 = .ok (.iload_n 1, 1) := by decide +kernel
theorem dX8_fits_1 : decode cX8_fits 1 = .ok (.invokestatic 80, 3) := by decide +kernel
theorem dX8_fits_4 : decode cX8_fits 4 = .ok (.ifCond .ne 5, 3) := by decide +kernel
theorem dX8_fits_7 : decode cX8_fits 7 = .ok (.iconst (-1), 1) := by decide +kernel
theorem dX8_fits_8 : decode cX8_fits 8 = .ok (.ireturn, 1) := by decide +kernel
theorem dX8_fits_9 : decode cX8_fits 9 = .ok (.aload_n 0, 1) := by decide +kernel
theorem dX8_fits_10 : decode cX8_fits 10 = .ok (.getfield 157, 3) := by decide +kernel
theorem dX8_fits_13 : decode cX8_fits 13 = .ok (.ifCond .ne 6, 3) := by decide +kernel
theorem dX8_fits_16 : decode cX8_fits 16 = .ok (.bipush (-4), 2) := by decide +kernel
theorem dX8_fits_18 : decode cX8_fits 18 = .ok (.ireturn, 1) := by decide +kernel
theorem dX8_fits_19 : decode cX8_fits 19 = .ok (.aload_n 0, 1) := by decide +kernel
theorem dX8_fits_20 : decode cX8_fits 20 = .ok (.iload_n 1, 1) := by decide +kernel
theorem dX8_fits_21 : decode cX8_fits 21 = .ok (.aload_n 0, 1) := by decide +kernel
theorem dX8_fits_22 : decode cX8_fits 22 = .ok (.getfield 157, 3) := by decide +kernel
theorem dX8_fits_25 : decode cX8_fits 25 = .ok (.iconst 1, 1) := by decide +kernel
theorem dX8_fits_26 : decode cX8_fits 26 = .ok (.isub, 1) := by decide +kernel
theorem dX8_fits_27 : decode cX8_fits 27 = .ok (.invokevirtual 268, 3) := by decide +kernel
theorem dX8_fits_30 : decode cX8_fits 30 = .ok (.istore_n 2, 1) := by decide +kernel
theorem dX8_fits_31 : decode cX8_fits 31 = .ok (.iload_n 2, 1) := by decide +kernel
theorem dX8_fits_32 : decode cX8_fits 32 = .ok (.ifCond .eq 5, 3) := by decide +kernel
theorem dX8_fits_35 : decode cX8_fits 35 = .ok (.iload_n 2, 1) := by decide +kernel
theorem dX8_fits_36 : decode cX8_fits 36 = .ok (.ireturn, 1) := by decide +kernel
theorem dX8_fits_37 : decode cX8_fits 37 = .ok (.aload_n 0, 1) := by decide +kernel
theorem dX8_fits_38 : decode cX8_fits 38 = .ok (.iload_n 1, 1) := by decide +kernel
theorem dX8_fits_39 : decode cX8_fits 39 = .ok (.invokevirtual 271, 3) := by decide +kernel
theorem dX8_fits_42 : decode cX8_fits 42 = .ok (.istore_n 3, 1) := by decide +kernel
theorem dX8_fits_43 : decode cX8_fits 43 = .ok (.aload_n 0, 1) := by decide +kernel
theorem dX8_fits_44 : decode cX8_fits 44 = .ok (.iload_n 3, 1) := by decide +kernel
theorem dX8_fits_45 : decode cX8_fits 45 = .ok (.invokestatic 274, 3) := by decide +kernel
theorem dX8_fits_48 : decode cX8_fits 48 = .ok (.putfield 69, 3) := by decide +kernel
theorem dX8_fits_51 : decode cX8_fits 51 = .ok (.iload_n 3, 1) := by decide +kernel
theorem dX8_fits_52 : decode cX8_fits 52 = .ok (.ireturn, 1) := by decide +kernel
theorem dX8_greatestPart_0 : decode cX8_greatestPart 0 = .ok (.iconst 0, 1) := by decide +kernel
theorem dX8_greatestPart_1 : decode cX8_greatestPart 1 = .ok (.istore_n 3, 1) := by decide +kernel
theorem dX8_greatestPart_2 : decode cX8_greatestPart 2 = .ok (.iload_n 3, 1) := by decide +kernel
theorem dX8_greatestPart_3 : decode cX8_greatestPart 3 = .ok (.iconst 3, 1) := by decide +kernel
theorem dX8_greatestPart_4 : decode cX8_greatestPart 4 = .ok (.if_icmp .ge 16, 3) := by decide +kernel
theorem dX8_greatestPart_7 : decode cX8_greatestPart 7 = .ok (.aload_n 0, 1) := by decide +kernel
theorem dX8_greatestPart_8 : decode cX8_greatestPart 8 = .ok (.getfield 53, 3) := by decide +kernel
theorem dX8_greatestPart_11 : decode cX8_greatestPart 11 = .ok (.iload_n 3, 1) := by decide +kernel
theorem dX8_greatestPart_12 : decode cX8_greatestPart 12 = .ok (.iconst 0, 1) := by decide +kernel
theorem dX8_greatestPart_13 : decode cX8_greatestPart 13 = .ok (.iastore, 1) := by decide +kernel
theorem dX8_greatestPart_14 : decode cX8_greatestPart 14 = .ok (.iinc 3 1, 3) := by decide +kernel
theorem dX8_greatestPart_17 : decode cX8_greatestPart 17 = .ok (.goto (-15), 3) := by decide +kernel
theorem dX8_greatestPart_20 : decode cX8_greatestPart 20 = .ok (.iconst 0, 1) := by decide +kernel
theorem dX8_greatestPart_21 : decode cX8_greatestPart 21 = .ok (.istore_n 3, 1) := by decide +kernel
theorem dX8_greatestPart_22 : decode cX8_greatestPart 22 = .ok (.iconst 0, 1) := by decide +kernel
theorem dX8_greatestPart_23 : decode cX8_greatestPart 23 = .ok (.istore 4, 2) := by decide +kernel
theorem dX8_greatestPart_25 : decode cX8_greatestPart 25 = .ok (.iload 4, 2) := by decide +kernel
theorem dX8_greatestPart_27 : decode cX8_greatestPart 27 = .ok (.bipush 31, 2) := by decide +kernel
theorem dX8_greatestPart_29 : decode cX8_greatestPart 29 = .ok (.if_icmp .ge 62, 3) := by decide +kernel
theorem dX8_greatestPart_32 : decode cX8_greatestPart 32 = .ok (.iload_n 2, 1) := by decide +kernel
theorem dX8_greatestPart_33 : decode cX8_greatestPart 33 = .ok (.iload 4, 2) := by decide +kernel
theorem dX8_greatestPart_35 : decode cX8_greatestPart 35 = .ok (.invokestatic 216, 3) := by decide +kernel
theorem dX8_greatestPart_38 : decode cX8_greatestPart 38 = .ok (.ifCond .eq 47, 3) := by decide +kernel
theorem dX8_greatestPart_41 : decode cX8_greatestPart 41 = .ok (.aload_n 0, 1) := by decide +kernel
theorem dX8_greatestPart_42 : decode cX8_greatestPart 42 = .ok (.iconst 0, 1) := by decide +kernel
theorem dX8_greatestPart_43 : decode cX8_greatestPart 43 = .ok (.iload_n 1, 1) := by decide +kernel
theorem dX8_greatestPart_44 : decode cX8_greatestPart 44 = .ok (.iload 4, 2) := by decide +kernel
theorem dX8_greatestPart_46 : decode cX8_greatestPart 46 = .ok (.invokevirtual 222, 3) := by decide +kernel
theorem dX8_greatestPart_49 : decode cX8_greatestPart 49 = .ok (.istore 5, 2) := by decide +kernel
theorem dX8_greatestPart_51 : decode cX8_greatestPart 51 = .ok (.aload_n 0, 1) := by decide +kernel
theorem dX8_greatestPart_52 : decode cX8_greatestPart 52 = .ok (.getfield 53, 3) := by decide +kernel
theorem dX8_greatestPart_55 : decode cX8_greatestPart 55 = .ok (.iload 5, 2) := by decide +kernel
theorem dX8_greatestPart_57 : decode cX8_greatestPart 57 = .ok (.dup2, 1) := by decide +kernel
theorem dX8_greatestPart_58 : decode cX8_greatestPart 58 = .ok (.iaload, 1) := by decide +kernel
theorem dX8_greatestPart_59 : decode cX8_greatestPart 59 = .ok (.iconst 1, 1) := by decide +kernel
theorem dX8_greatestPart_60 : decode cX8_greatestPart 60 = .ok (.iadd, 1) := by decide +kernel
theorem dX8_greatestPart_61 : decode cX8_greatestPart 61 = .ok (.iastore, 1) := by decide +kernel
theorem dX8_greatestPart_62 : decode cX8_greatestPart 62 = .ok (.aload_n 0, 1) := by decide +kernel
theorem dX8_greatestPart_63 : decode cX8_greatestPart 63 = .ok (.getfield 53, 3) := by decide +kernel
theorem dX8_greatestPart_66 : decode cX8_greatestPart 66 = .ok (.iload 5, 2) := by decide +kernel
theorem dX8_greatestPart_68 : decode cX8_greatestPart 68 = .ok (.iaload, 1) := by decide +kernel
theorem dX8_greatestPart_69 : decode cX8_greatestPart 69 = .ok (.iload_n 3, 1) := by decide +kernel
theorem dX8_greatestPart_70 : decode cX8_greatestPart 70 = .ok (.if_icmp .le 13, 3) := by decide +kernel
theorem dX8_greatestPart_73 : decode cX8_greatestPart 73 = .ok (.aload_n 0, 1) := by decide +kernel
theorem dX8_greatestPart_74 : decode cX8_greatestPart 74 = .ok (.getfield 53, 3) := by decide +kernel
theorem dX8_greatestPart_77 : decode cX8_greatestPart 77 = .ok (.iload 5, 2) := by decide +kernel
theorem dX8_greatestPart_79 : decode cX8_greatestPart 79 = .ok (.iaload, 1) := by decide +kernel
theorem dX8_greatestPart_80 : decode cX8_greatestPart 80 = .ok (.goto 4, 3) := by decide +kernel
theorem dX8_greatestPart_83 : decode cX8_greatestPart 83 = .ok (.iload_n 3, 1) := by decide +kernel
theorem dX8_greatestPart_84 : decode cX8_greatestPart 84 = .ok (.istore_n 3, 1) := by decide +kernel
theorem dX8_greatestPart_85 : decode cX8_greatestPart 85 = .ok (.iinc 4 1, 3) := by decide +kernel
theorem dX8_greatestPart_88 : decode cX8_greatestPart 88 = .ok (.goto (-63), 3) := by decide +kernel
theorem dX8_greatestPart_91 : decode cX8_greatestPart 91 = .ok (.iload_n 3, 1) := by decide +kernel
theorem dX8_greatestPart_92 : decode cX8_greatestPart 92 = .ok (.ireturn, 1) := by decide +kernel
theorem dX8_ask_0 : decode cX8_ask 0 = .ok (.iload_n 1, 1) := by decide +kernel
theorem dX8_ask_1 : decode cX8_ask 1 = .ok (.invokestatic 80, 3) := by decide +kernel
theorem dX8_ask_4 : decode cX8_ask 4 = .ok (.ifCond .ne 5, 3) := by decide +kernel
theorem dX8_ask_7 : decode cX8_ask 7 = .ok (.iconst (-1), 1) := by decide +kernel
theorem dX8_ask_8 : decode cX8_ask 8 = .ok (.ireturn, 1) := by decide +kernel
theorem dX8_ask_9 : decode cX8_ask 9 = .ok (.aload_n 0, 1) := by decide +kernel
theorem dX8_ask_10 : decode cX8_ask 10 = .ok (.getfield 157, 3) := by decide +kernel
theorem dX8_ask_13 : decode cX8_ask 13 = .ok (.ifCond .ne 6, 3) := by decide +kernel
theorem dX8_ask_16 : decode cX8_ask 16 = .ok (.bipush (-4), 2) := by decide +kernel
theorem dX8_ask_18 : decode cX8_ask 18 = .ok (.ireturn, 1) := by decide +kernel
theorem dX8_ask_19 : decode cX8_ask 19 = .ok (.aload_n 0, 1) := by decide +kernel
theorem dX8_ask_20 : decode cX8_ask 20 = .ok (.iload_n 1, 1) := by decide +kernel
theorem dX8_ask_21 : decode cX8_ask 21 = .ok (.aload_n 0, 1) := by decide +kernel
theorem dX8_ask_22 : decode cX8_ask 22 = .ok (.getfield 157, 3) := by decide +kernel
theorem dX8_ask_25 : decode cX8_ask 25 = .ok (.iconst 1, 1) := by decide +kernel
theorem dX8_ask_26 : decode cX8_ask 26 = .ok (.isub, 1) := by decide +kernel
theorem dX8_ask_27 : decode cX8_ask 27 = .ok (.invokevirtual 268, 3) := by decide +kernel
theorem dX8_ask_30 : decode cX8_ask 30 = .ok (.istore_n 2, 1) := by decide +kernel
theorem dX8_ask_31 : decode cX8_ask 31 = .ok (.iload_n 2, 1) := by decide +kernel
theorem dX8_ask_32 : decode cX8_ask 32 = .ok (.ifCond .eq 5, 3) := by decide +kernel
theorem dX8_ask_35 : decode cX8_ask 35 = .ok (.iload_n 2, 1) := by decide +kernel
theorem dX8_ask_36 : decode cX8_ask 36 = .ok (.ireturn, 1) := by decide +kernel
theorem dX8_ask_37 : decode cX8_ask 37 = .ok (.aload_n 0, 1) := by decide +kernel
theorem dX8_ask_38 : decode cX8_ask 38 = .ok (.iload_n 1, 1) := by decide +kernel
theorem dX8_ask_39 : decode cX8_ask 39 = .ok (.invokevirtual 271, 3) := by decide +kernel
theorem dX8_ask_42 : decode cX8_ask 42 = .ok (.istore_n 3, 1) := by decide +kernel
theorem dX8_ask_43 : decode cX8_ask 43 = .ok (.iload_n 3, 1) := by decide +kernel
theorem dX8_ask_44 : decode cX8_ask 44 = .ok (.ifCond .ne 6, 3) := by decide +kernel
theorem dX8_ask_47 : decode cX8_ask 47 = .ok (.bipush (-9), 2) := by decide +kernel
theorem dX8_ask_49 : decode cX8_ask 49 = .ok (.ireturn, 1) := by decide +kernel
theorem dX8_ask_50 : decode cX8_ask 50 = .ok (.iconst 0, 1) := by decide +kernel
theorem dX8_ask_51 : decode cX8_ask 51 = .ok (.istore 4, 2) := by decide +kernel
theorem dX8_ask_53 : decode cX8_ask 53 = .ok (.iconst 1, 1) := by decide +kernel
theorem dX8_ask_54 : decode cX8_ask 54 = .ok (.istore 5, 2) := by decide +kernel
theorem dX8_ask_56 : decode cX8_ask 56 = .ok (.iload 5, 2) := by decide +kernel
theorem dX8_ask_58 : decode cX8_ask 58 = .ok (.aload_n 0, 1) := by decide +kernel
theorem dX8_ask_59 : decode cX8_ask 59 = .ok (.getfield 157, 3) := by decide +kernel
theorem dX8_ask_62 : decode cX8_ask 62 = .ok (.if_icmp .ge 35, 3) := by decide +kernel
theorem dX8_ask_65 : decode cX8_ask 65 = .ok (.aload_n 0, 1) := by decide +kernel
theorem dX8_ask_66 : decode cX8_ask 66 = .ok (.iload 5, 2) := by decide +kernel
theorem dX8_ask_68 : decode cX8_ask 68 = .ok (.iload_n 3, 1) := by decide +kernel
theorem dX8_ask_69 : decode cX8_ask 69 = .ok (.invokevirtual 277, 3) := by decide +kernel
theorem dX8_ask_72 : decode cX8_ask 72 = .ok (.aload_n 0, 1) := by decide +kernel
theorem dX8_ask_73 : decode cX8_ask 73 = .ok (.iload 4, 2) := by decide +kernel
theorem dX8_ask_75 : decode cX8_ask 75 = .ok (.iload_n 3, 1) := by decide +kernel
theorem dX8_ask_76 : decode cX8_ask 76 = .ok (.invokevirtual 277, 3) := by decide +kernel
theorem dX8_ask_79 : decode cX8_ask 79 = .ok (.if_icmp .ge 8, 3) := by decide +kernel
theorem dX8_ask_82 : decode cX8_ask 82 = .ok (.iload 5, 2) := by decide +kernel
theorem dX8_ask_84 : decode cX8_ask 84 = .ok (.goto 5, 3) := by decide +kernel
theorem dX8_ask_87 : decode cX8_ask 87 = .ok (.iload 4, 2) := by decide +kernel
theorem dX8_ask_89 : decode cX8_ask 89 = .ok (.istore 4, 2) := by decide +kernel
theorem dX8_ask_91 : decode cX8_ask 91 = .ok (.iinc 5 1, 3) := by decide +kernel
theorem dX8_ask_94 : decode cX8_ask 94 = .ok (.goto (-38), 3) := by decide +kernel
theorem dX8_ask_97 : decode cX8_ask 97 = .ok (.aload_n 0, 1) := by decide +kernel
theorem dX8_ask_98 : decode cX8_ask 98 = .ok (.aload_n 0, 1) := by decide +kernel
theorem dX8_ask_99 : decode cX8_ask 99 = .ok (.iload 4, 2) := by decide +kernel
theorem dX8_ask_101 : decode cX8_ask 101 = .ok (.iload_n 3, 1) := by decide +kernel
theorem dX8_ask_102 : decode cX8_ask 102 = .ok (.invokevirtual 277, 3) := by decide +kernel
theorem dX8_ask_105 : decode cX8_ask 105 = .ok (.putfield 69, 3) := by decide +kernel
theorem dX8_ask_108 : decode cX8_ask 108 = .ok (.iload 4, 2) := by decide +kernel
theorem dX8_ask_110 : decode cX8_ask 110 = .ok (.ireturn, 1) := by decide +kernel
theorem dX8_isTold_0 : decode cX8_isTold 0 = .ok (.iconst 1, 1) := by decide +kernel
theorem dX8_isTold_1 : decode cX8_isTold 1 = .ok (.istore 5, 2) := by decide +kernel
theorem dX8_isTold_3 : decode cX8_isTold 3 = .ok (.bipush 40, 2) := by decide +kernel
theorem dX8_isTold_5 : decode cX8_isTold 5 = .ok (.iload_n 2, 1) := by decide +kernel
theorem dX8_isTold_6 : decode cX8_isTold 6 = .ok (.imul, 1) := by decide +kernel
theorem dX8_isTold_7 : decode cX8_isTold 7 = .ok (.istore 6, 2) := by decide +kernel
theorem dX8_isTold_9 : decode cX8_isTold 9 = .ok (.iload 6, 2) := by decide +kernel
theorem dX8_isTold_11 : decode cX8_isTold 11 = .ok (.bipush 40, 2) := by decide +kernel
theorem dX8_isTold_13 : decode cX8_isTold 13 = .ok (.iload_n 2, 1) := by decide +kernel
theorem dX8_isTold_14 : decode cX8_isTold 14 = .ok (.imul, 1) := by decide +kernel
theorem dX8_isTold_15 : decode cX8_isTold 15 = .ok (.aload_n 0, 1) := by decide +kernel
theorem dX8_isTold_16 : decode cX8_isTold 16 = .ok (.getfield 25, 3) := by decide +kernel
theorem dX8_isTold_19 : decode cX8_isTold 19 = .ok (.iload_n 2, 1) := by decide +kernel
theorem dX8_isTold_20 : decode cX8_isTold 20 = .ok (.iaload, 1) := by decide +kernel
theorem dX8_isTold_21 : decode cX8_isTold 21 = .ok (.iadd, 1) := by decide +kernel
theorem dX8_isTold_22 : decode cX8_isTold 22 = .ok (.if_icmp .ge 48, 3) := by decide +kernel
theorem dX8_isTold_25 : decode cX8_isTold 25 = .ok (.iload 5, 2) := by decide +kernel
theorem dX8_isTold_27 : decode cX8_isTold 27 = .ok (.ifCond .eq 34, 3) := by decide +kernel
theorem dX8_isTold_30 : decode cX8_isTold 30 = .ok (.aload_n 0, 1) := by decide +kernel
theorem dX8_isTold_31 : decode cX8_isTold 31 = .ok (.iload_n 1, 1) := by decide +kernel
theorem dX8_isTold_32 : decode cX8_isTold 32 = .ok (.iload_n 3, 1) := by decide +kernel
theorem dX8_isTold_33 : decode cX8_isTold 33 = .ok (.iload 4, 2) := by decide +kernel
theorem dX8_isTold_35 : decode cX8_isTold 35 = .ok (.aload_n 0, 1) := by decide +kernel
theorem dX8_isTold_36 : decode cX8_isTold 36 = .ok (.getfield 28, 3) := by decide +kernel
theorem dX8_isTold_39 : decode cX8_isTold 39 = .ok (.iload 6, 2) := by decide +kernel
theorem dX8_isTold_41 : decode cX8_isTold 41 = .ok (.iaload, 1) := by decide +kernel
theorem dX8_isTold_42 : decode cX8_isTold 42 = .ok (.invokevirtual 280, 3) := by decide +kernel
theorem dX8_isTold_45 : decode cX8_isTold 45 = .ok (.aload_n 0, 1) := by decide +kernel
theorem dX8_isTold_46 : decode cX8_isTold 46 = .ok (.getfield 28, 3) := by decide +kernel
theorem dX8_isTold_49 : decode cX8_isTold 49 = .ok (.iload 6, 2) := by decide +kernel
theorem dX8_isTold_51 : decode cX8_isTold 51 = .ok (.iconst 1, 1) := by decide +kernel
theorem dX8_isTold_52 : decode cX8_isTold 52 = .ok (.iadd, 1) := by decide +kernel
theorem dX8_isTold_53 : decode cX8_isTold 53 = .ok (.iaload, 1) := by decide +kernel
theorem dX8_isTold_54 : decode cX8_isTold 54 = .ok (.if_icmp .ne 7, 3) := by decide +kernel
theorem dX8_isTold_57 : decode cX8_isTold 57 = .ok (.iconst 1, 1) := by decide +kernel
theorem dX8_isTold_58 : decode cX8_isTold 58 = .ok (.goto 4, 3) := by decide +kernel
theorem dX8_isTold_61 : decode cX8_isTold 61 = .ok (.iconst 0, 1) := by decide +kernel
theorem dX8_isTold_62 : decode cX8_isTold 62 = .ok (.istore 5, 2) := by decide +kernel
theorem dX8_isTold_64 : decode cX8_isTold 64 = .ok (.iinc 6 2, 3) := by decide +kernel
theorem dX8_isTold_67 : decode cX8_isTold 67 = .ok (.goto (-58), 3) := by decide +kernel
theorem dX8_isTold_70 : decode cX8_isTold 70 = .ok (.iload 5, 2) := by decide +kernel
theorem dX8_isTold_72 : decode cX8_isTold 72 = .ok (.ireturn, 1) := by decide +kernel
theorem dX8_hands_0 : decode cX8_hands 0 = .ok (.aload_n 0, 1) := by decide +kernel
theorem dX8_hands_1 : decode cX8_hands 1 = .ok (.iload_n 1, 1) := by decide +kernel
theorem dX8_hands_2 : decode cX8_hands 2 = .ok (.invokevirtual 191, 3) := by decide +kernel
theorem dX8_hands_5 : decode cX8_hands 5 = .ok (.ifCond .eq 10, 3) := by decide +kernel
theorem dX8_hands_8 : decode cX8_hands 8 = .ok (.iload_n 2, 1) := by decide +kernel
theorem dX8_hands_9 : decode cX8_hands 9 = .ok (.invokestatic 80, 3) := by decide +kernel
theorem dX8_hands_12 : decode cX8_hands 12 = .ok (.ifCond .ne 5, 3) := by decide +kernel
theorem dX8_hands_15 : decode cX8_hands 15 = .ok (.iconst (-1), 1) := by decide +kernel
theorem dX8_hands_16 : decode cX8_hands 16 = .ok (.ireturn, 1) := by decide +kernel
theorem dX8_hands_17 : decode cX8_hands 17 = .ok (.aload_n 0, 1) := by decide +kernel
theorem dX8_hands_18 : decode cX8_hands 18 = .ok (.iload_n 2, 1) := by decide +kernel
theorem dX8_hands_19 : decode cX8_hands 19 = .ok (.bipush 30, 2) := by decide +kernel
theorem dX8_hands_21 : decode cX8_hands 21 = .ok (.invokevirtual 268, 3) := by decide +kernel
theorem dX8_hands_24 : decode cX8_hands 24 = .ok (.istore_n 3, 1) := by decide +kernel
theorem dX8_hands_25 : decode cX8_hands 25 = .ok (.iload_n 3, 1) := by decide +kernel
theorem dX8_hands_26 : decode cX8_hands 26 = .ok (.ifCond .eq 5, 3) := by decide +kernel
theorem dX8_hands_29 : decode cX8_hands 29 = .ok (.iload_n 3, 1) := by decide +kernel
theorem dX8_hands_30 : decode cX8_hands 30 = .ok (.ireturn, 1) := by decide +kernel
theorem dX8_hands_31 : decode cX8_hands 31 = .ok (.iconst 0, 1) := by decide +kernel
theorem dX8_hands_32 : decode cX8_hands 32 = .ok (.istore 4, 2) := by decide +kernel
theorem dX8_hands_34 : decode cX8_hands 34 = .ok (.iconst 0, 1) := by decide +kernel
theorem dX8_hands_35 : decode cX8_hands 35 = .ok (.istore 5, 2) := by decide +kernel
theorem dX8_hands_37 : decode cX8_hands 37 = .ok (.iload 5, 2) := by decide +kernel
theorem dX8_hands_39 : decode cX8_hands 39 = .ok (.bipush 10, 2) := by decide +kernel
theorem dX8_hands_41 : decode cX8_hands 41 = .ok (.if_icmp .ge 39, 3) := by decide +kernel
theorem dX8_hands_44 : decode cX8_hands 44 = .ok (.iload 4, 2) := by decide +kernel
theorem dX8_hands_46 : decode cX8_hands 46 = .ok (.aload_n 0, 1) := by decide +kernel
theorem dX8_hands_47 : decode cX8_hands 47 = .ok (.iload_n 1, 1) := by decide +kernel
theorem dX8_hands_48 : decode cX8_hands 48 = .ok (.iload_n 2, 1) := by decide +kernel
theorem dX8_hands_49 : decode cX8_hands 49 = .ok (.aload_n 0, 1) := by decide +kernel
theorem dX8_hands_50 : decode cX8_hands 50 = .ok (.getfield 13, 3) := by decide +kernel
theorem dX8_hands_53 : decode cX8_hands 53 = .ok (.iload_n 1, 1) := by decide +kernel
theorem dX8_hands_54 : decode cX8_hands 54 = .ok (.iaload, 1) := by decide +kernel
theorem dX8_hands_55 : decode cX8_hands 55 = .ok (.iload 5, 2) := by decide +kernel
theorem dX8_hands_57 : decode cX8_hands 57 = .ok (.invokevirtual 283, 3) := by decide +kernel
theorem dX8_hands_60 : decode cX8_hands 60 = .ok (.ifCond .eq 10, 3) := by decide +kernel
theorem dX8_hands_63 : decode cX8_hands 63 = .ok (.iconst 1, 1) := by decide +kernel
theorem dX8_hands_64 : decode cX8_hands 64 = .ok (.iload 5, 2) := by decide +kernel
theorem dX8_hands_66 : decode cX8_hands 66 = .ok (.ishl, 1) := by decide +kernel
theorem dX8_hands_67 : decode cX8_hands 67 = .ok (.goto 4, 3) := by decide +kernel
theorem dX8_hands_70 : decode cX8_hands 70 = .ok (.iconst 0, 1) := by decide +kernel
theorem dX8_hands_71 : decode cX8_hands 71 = .ok (.ior, 1) := by decide +kernel
theorem dX8_hands_72 : decode cX8_hands 72 = .ok (.istore 4, 2) := by decide +kernel
theorem dX8_hands_74 : decode cX8_hands 74 = .ok (.iinc 5 1, 3) := by decide +kernel
theorem dX8_hands_77 : decode cX8_hands 77 = .ok (.goto (-40), 3) := by decide +kernel
theorem dX8_hands_80 : decode cX8_hands 80 = .ok (.iload 4, 2) := by decide +kernel
theorem dX8_hands_82 : decode cX8_hands 82 = .ok (.ireturn, 1) := by decide +kernel
theorem dX8_kinds_0 : decode cX8_kinds 0 = .ok (.aload_n 0, 1) := by decide +kernel
theorem dX8_kinds_1 : decode cX8_kinds 1 = .ok (.iload_n 1, 1) := by decide +kernel
theorem dX8_kinds_2 : decode cX8_kinds 2 = .ok (.invokevirtual 191, 3) := by decide +kernel
theorem dX8_kinds_5 : decode cX8_kinds 5 = .ok (.ifCond .eq 10, 3) := by decide +kernel
theorem dX8_kinds_8 : decode cX8_kinds 8 = .ok (.iload_n 2, 1) := by decide +kernel
theorem dX8_kinds_9 : decode cX8_kinds 9 = .ok (.invokestatic 80, 3) := by decide +kernel
theorem dX8_kinds_12 : decode cX8_kinds 12 = .ok (.ifCond .ne 5, 3) := by decide +kernel
theorem dX8_kinds_15 : decode cX8_kinds 15 = .ok (.iconst (-1), 1) := by decide +kernel
theorem dX8_kinds_16 : decode cX8_kinds 16 = .ok (.ireturn, 1) := by decide +kernel
theorem dX8_kinds_17 : decode cX8_kinds 17 = .ok (.aload_n 0, 1) := by decide +kernel
theorem dX8_kinds_18 : decode cX8_kinds 18 = .ok (.iload_n 2, 1) := by decide +kernel
theorem dX8_kinds_19 : decode cX8_kinds 19 = .ok (.bipush 30, 2) := by decide +kernel
theorem dX8_kinds_21 : decode cX8_kinds 21 = .ok (.invokevirtual 268, 3) := by decide +kernel
theorem dX8_kinds_24 : decode cX8_kinds 24 = .ok (.istore_n 3, 1) := by decide +kernel
theorem dX8_kinds_25 : decode cX8_kinds 25 = .ok (.iload_n 3, 1) := by decide +kernel
theorem dX8_kinds_26 : decode cX8_kinds 26 = .ok (.ifCond .eq 5, 3) := by decide +kernel
theorem dX8_kinds_29 : decode cX8_kinds 29 = .ok (.iload_n 3, 1) := by decide +kernel
theorem dX8_kinds_30 : decode cX8_kinds 30 = .ok (.ireturn, 1) := by decide +kernel
theorem dX8_kinds_31 : decode cX8_kinds 31 = .ok (.iconst 0, 1) := by decide +kernel
theorem dX8_kinds_32 : decode cX8_kinds 32 = .ok (.istore 4, 2) := by decide +kernel
theorem dX8_kinds_34 : decode cX8_kinds 34 = .ok (.iconst 0, 1) := by decide +kernel
theorem dX8_kinds_35 : decode cX8_kinds 35 = .ok (.istore 5, 2) := by decide +kernel
theorem dX8_kinds_37 : decode cX8_kinds 37 = .ok (.iload 5, 2) := by decide +kernel
theorem dX8_kinds_39 : decode cX8_kinds 39 = .ok (.bipush 6, 2) := by decide +kernel
theorem dX8_kinds_41 : decode cX8_kinds 41 = .ok (.if_icmp .ge 39, 3) := by decide +kernel
theorem dX8_kinds_44 : decode cX8_kinds 44 = .ok (.iload 4, 2) := by decide +kernel
theorem dX8_kinds_46 : decode cX8_kinds 46 = .ok (.aload_n 0, 1) := by decide +kernel
theorem dX8_kinds_47 : decode cX8_kinds 47 = .ok (.iload_n 1, 1) := by decide +kernel
theorem dX8_kinds_48 : decode cX8_kinds 48 = .ok (.iload_n 2, 1) := by decide +kernel
theorem dX8_kinds_49 : decode cX8_kinds 49 = .ok (.iload 5, 2) := by decide +kernel
theorem dX8_kinds_51 : decode cX8_kinds 51 = .ok (.aload_n 0, 1) := by decide +kernel
theorem dX8_kinds_52 : decode cX8_kinds 52 = .ok (.getfield 22, 3) := by decide +kernel
theorem dX8_kinds_55 : decode cX8_kinds 55 = .ok (.iload_n 1, 1) := by decide +kernel
theorem dX8_kinds_56 : decode cX8_kinds 56 = .ok (.iaload, 1) := by decide +kernel
theorem dX8_kinds_57 : decode cX8_kinds 57 = .ok (.invokevirtual 283, 3) := by decide +kernel
theorem dX8_kinds_60 : decode cX8_kinds 60 = .ok (.ifCond .eq 10, 3) := by decide +kernel
theorem dX8_kinds_63 : decode cX8_kinds 63 = .ok (.iconst 1, 1) := by decide +kernel
theorem dX8_kinds_64 : decode cX8_kinds 64 = .ok (.iload 5, 2) := by decide +kernel
theorem dX8_kinds_66 : decode cX8_kinds 66 = .ok (.ishl, 1) := by decide +kernel
theorem dX8_kinds_67 : decode cX8_kinds 67 = .ok (.goto 4, 3) := by decide +kernel
theorem dX8_kinds_70 : decode cX8_kinds 70 = .ok (.iconst 0, 1) := by decide +kernel
theorem dX8_kinds_71 : decode cX8_kinds 71 = .ok (.ior, 1) := by decide +kernel
theorem dX8_kinds_72 : decode cX8_kinds 72 = .ok (.istore 4, 2) := by decide +kernel
theorem dX8_kinds_74 : decode cX8_kinds 74 = .ok (.iinc 5 1, 3) := by decide +kernel
theorem dX8_kinds_77 : decode cX8_kinds 77 = .ok (.goto (-40), 3) := by decide +kernel
theorem dX8_kinds_80 : decode cX8_kinds 80 = .ok (.iload 4, 2) := by decide +kernel
theorem dX8_kinds_82 : decode cX8_kinds 82 = .ok (.ireturn, 1) := by decide +kernel
theorem dX8_foulBy_0 : decode cX8_foulBy 0 = .ok (.iconst 0, 1) := by decide +kernel
theorem dX8_foulBy_1 : decode cX8_foulBy 1 = .ok (.istore_n 2, 1) := by decide +kernel
theorem dX8_foulBy_2 : decode cX8_foulBy 2 = .ok (.iconst 0, 1) := by decide +kernel
theorem dX8_foulBy_3 : decode cX8_foulBy 3 = .ok (.istore_n 3, 1) := by decide +kernel
theorem dX8_foulBy_4 : decode cX8_foulBy 4 = .ok (.iload_n 3, 1) := by decide +kernel
theorem dX8_foulBy_5 : decode cX8_foulBy 5 = .ok (.aload_n 0, 1) := by decide +kernel
theorem dX8_foulBy_6 : decode cX8_foulBy 6 = .ok (.getfield 157, 3) := by decide +kernel
theorem dX8_foulBy_9 : decode cX8_foulBy 9 = .ok (.if_icmp .ge 35, 3) := by decide +kernel
theorem dX8_foulBy_12 : decode cX8_foulBy 12 = .ok (.iload_n 2, 1) := by decide +kernel
theorem dX8_foulBy_13 : decode cX8_foulBy 13 = .ok (.aload_n 0, 1) := by decide +kernel
theorem dX8_foulBy_14 : decode cX8_foulBy 14 = .ok (.iload_n 3, 1) := by decide +kernel
theorem dX8_foulBy_15 : decode cX8_foulBy 15 = .ok (.invokevirtual 219, 3) := by decide +kernel
theorem dX8_foulBy_18 : decode cX8_foulBy 18 = .ok (.ifCond .ne 17, 3) := by decide +kernel
theorem dX8_foulBy_21 : decode cX8_foulBy 21 = .ok (.aload_n 0, 1) := by decide +kernel
theorem dX8_foulBy_22 : decode cX8_foulBy 22 = .ok (.iconst 0, 1) := by decide +kernel
theorem dX8_foulBy_23 : decode cX8_foulBy 23 = .ok (.iload_n 3, 1) := by decide +kernel
theorem dX8_foulBy_24 : decode cX8_foulBy 24 = .ok (.iload_n 1, 1) := by decide +kernel
theorem dX8_foulBy_25 : decode cX8_foulBy 25 = .ok (.invokevirtual 222, 3) := by decide +kernel
theorem dX8_foulBy_28 : decode cX8_foulBy 28 = .ok (.ifCond .ne 7, 3) := by decide +kernel
theorem dX8_foulBy_31 : decode cX8_foulBy 31 = .ok (.iconst 1, 1) := by decide +kernel
theorem dX8_foulBy_32 : decode cX8_foulBy 32 = .ok (.goto 4, 3) := by decide +kernel
theorem dX8_foulBy_35 : decode cX8_foulBy 35 = .ok (.iconst 0, 1) := by decide +kernel
theorem dX8_foulBy_36 : decode cX8_foulBy 36 = .ok (.iadd, 1) := by decide +kernel
theorem dX8_foulBy_37 : decode cX8_foulBy 37 = .ok (.istore_n 2, 1) := by decide +kernel
theorem dX8_foulBy_38 : decode cX8_foulBy 38 = .ok (.iinc 3 1, 3) := by decide +kernel
theorem dX8_foulBy_41 : decode cX8_foulBy 41 = .ok (.goto (-37), 3) := by decide +kernel
theorem dX8_foulBy_44 : decode cX8_foulBy 44 = .ok (.iload_n 2, 1) := by decide +kernel
theorem dX8_foulBy_45 : decode cX8_foulBy 45 = .ok (.ireturn, 1) := by decide +kernel
theorem dX8_duel_0 : decode cX8_duel 0 = .ok (.iload_n 1, 1) := by decide +kernel
theorem dX8_duel_1 : decode cX8_duel 1 = .ok (.i2l, 1) := by decide +kernel
theorem dX8_duel_2 : decode cX8_duel 2 = .ok (.lconst 0, 1) := by decide +kernel
theorem dX8_duel_3 : decode cX8_duel 3 = .ok (.ldc2_w 287, 3) := by decide +kernel
theorem dX8_duel_6 : decode cX8_duel 6 = .ok (.invokestatic 74, 3) := by decide +kernel
theorem dX8_duel_9 : decode cX8_duel 9 = .ok (.ifCond .ne 5, 3) := by decide +kernel
theorem dX8_duel_12 : decode cX8_duel 12 = .ok (.iconst (-1), 1) := by decide +kernel
theorem dX8_duel_13 : decode cX8_duel 13 = .ok (.ireturn, 1) := by decide +kernel
theorem dX8_duel_14 : decode cX8_duel 14 = .ok (.aload_n 0, 1) := by decide +kernel
theorem dX8_duel_15 : decode cX8_duel 15 = .ok (.getfield 157, 3) := by decide +kernel
theorem dX8_duel_18 : decode cX8_duel 18 = .ok (.ifCond .ne 6, 3) := by decide +kernel
theorem dX8_duel_21 : decode cX8_duel 21 = .ok (.bipush (-4), 2) := by decide +kernel
theorem dX8_duel_23 : decode cX8_duel 23 = .ok (.ireturn, 1) := by decide +kernel
theorem dX8_duel_24 : decode cX8_duel 24 = .ok (.iconst 0, 1) := by decide +kernel
theorem dX8_duel_25 : decode cX8_duel 25 = .ok (.istore_n 2, 1) := by decide +kernel
theorem dX8_duel_26 : decode cX8_duel 26 = .ok (.iload_n 2, 1) := by decide +kernel
theorem dX8_duel_27 : decode cX8_duel 27 = .ok (.bipush 31, 2) := by decide +kernel
theorem dX8_duel_29 : decode cX8_duel 29 = .ok (.if_icmp .ge 20, 3) := by decide +kernel
theorem dX8_duel_32 : decode cX8_duel 32 = .ok (.aload_n 0, 1) := by decide +kernel
theorem dX8_duel_33 : decode cX8_duel 33 = .ok (.getfield 56, 3) := by decide +kernel
theorem dX8_duel_36 : decode cX8_duel 36 = .ok (.iload_n 2, 1) := by decide +kernel
theorem dX8_duel_37 : decode cX8_duel 37 = .ok (.aload_n 0, 1) := by decide +kernel
theorem dX8_duel_38 : decode cX8_duel 38 = .ok (.iload_n 2, 1) := by decide +kernel
theorem dX8_duel_39 : decode cX8_duel 39 = .ok (.invokevirtual 289, 3) := by decide +kernel
theorem dX8_duel_42 : decode cX8_duel 42 = .ok (.iastore, 1) := by decide +kernel
theorem dX8_duel_43 : decode cX8_duel 43 = .ok (.iinc 2 1, 3) := by decide +kernel
theorem dX8_duel_46 : decode cX8_duel 46 = .ok (.goto (-20), 3) := by decide +kernel
theorem dX8_duel_49 : decode cX8_duel 49 = .ok (.iload_n 1, 1) := by decide +kernel
theorem dX8_duel_50 : decode cX8_duel 50 = .ok (.iconst 1, 1) := by decide +kernel
theorem dX8_duel_51 : decode cX8_duel 51 = .ok (.isub, 1) := by decide +kernel
theorem dX8_duel_52 : decode cX8_duel 52 = .ok (.istore_n 2, 1) := by decide +kernel
theorem dX8_duel_53 : decode cX8_duel 53 = .ok (.iload_n 2, 1) := by decide +kernel
theorem dX8_duel_54 : decode cX8_duel 54 = .ok (.ifCond .lt 134, 3) := by decide +kernel
theorem dX8_duel_57 : decode cX8_duel 57 = .ok (.iconst 0, 1) := by decide +kernel
theorem dX8_duel_58 : decode cX8_duel 58 = .ok (.istore_n 3, 1) := by decide +kernel
theorem dX8_duel_59 : decode cX8_duel 59 = .ok (.iload_n 3, 1) := by decide +kernel
theorem dX8_duel_60 : decode cX8_duel 60 = .ok (.bipush 31, 2) := by decide +kernel
theorem dX8_duel_62 : decode cX8_duel 62 = .ok (.if_icmp .ge 94, 3) := by decide +kernel
theorem dX8_duel_65 : decode cX8_duel 65 = .ok (.aload_n 0, 1) := by decide +kernel
theorem dX8_duel_66 : decode cX8_duel 66 = .ok (.getfield 56, 3) := by decide +kernel
theorem dX8_duel_69 : decode cX8_duel 69 = .ok (.iload_n 3, 1) := by decide +kernel
theorem dX8_duel_70 : decode cX8_duel 70 = .ok (.iaload, 1) := by decide +kernel
theorem dX8_duel_71 : decode cX8_duel 71 = .ok (.istore 4, 2) := by decide +kernel
theorem dX8_duel_73 : decode cX8_duel 73 = .ok (.bipush (-3), 2) := by decide +kernel
theorem dX8_duel_75 : decode cX8_duel 75 = .ok (.istore 5, 2) := by decide +kernel
theorem dX8_duel_77 : decode cX8_duel 77 = .ok (.iload 5, 2) := by decide +kernel
theorem dX8_duel_79 : decode cX8_duel 79 = .ok (.iconst 4, 1) := by decide +kernel
theorem dX8_duel_80 : decode cX8_duel 80 = .ok (.if_icmp .ge 62, 3) := by decide +kernel
theorem dX8_duel_83 : decode cX8_duel 83 = .ok (.aload_n 0, 1) := by decide +kernel
theorem dX8_duel_84 : decode cX8_duel 84 = .ok (.getfield 56, 3) := by decide +kernel
theorem dX8_duel_87 : decode cX8_duel 87 = .ok (.iload_n 3, 1) := by decide +kernel
theorem dX8_duel_88 : decode cX8_duel 88 = .ok (.iload 5, 2) := by decide +kernel
theorem dX8_duel_90 : decode cX8_duel 90 = .ok (.iadd, 1) := by decide +kernel
theorem dX8_duel_91 : decode cX8_duel 91 = .ok (.invokestatic 213, 3) := by decide +kernel
theorem dX8_duel_94 : decode cX8_duel 94 = .ok (.iaload, 1) := by decide +kernel
theorem dX8_duel_95 : decode cX8_duel 95 = .ok (.istore 6, 2) := by decide +kernel
theorem dX8_duel_97 : decode cX8_duel 97 = .ok (.iload_n 2, 1) := by decide +kernel
theorem dX8_duel_98 : decode cX8_duel 98 = .ok (.iconst 2, 1) := by decide +kernel
theorem dX8_duel_99 : decode cX8_duel 99 = .ok (.irem, 1) := by decide +kernel
theorem dX8_duel_100 : decode cX8_duel 100 = .ok (.ifCond .ne 20, 3) := by decide +kernel
theorem dX8_duel_103 : decode cX8_duel 103 = .ok (.iload 6, 2) := by decide +kernel
theorem dX8_duel_105 : decode cX8_duel 105 = .ok (.iload 4, 2) := by decide +kernel
theorem dX8_duel_107 : decode cX8_duel 107 = .ok (.if_icmp .ge 8, 3) := by decide +kernel
theorem dX8_duel_110 : decode cX8_duel 110 = .ok (.iload 6, 2) := by decide +kernel
theorem dX8_duel_112 : decode cX8_duel 112 = .ok (.goto 22, 3) := by decide +kernel
theorem dX8_duel_115 : decode cX8_duel 115 = .ok (.iload 4, 2) := by decide +kernel
theorem dX8_duel_117 : decode cX8_duel 117 = .ok (.goto 17, 3) := by decide +kernel
theorem dX8_duel_120 : decode cX8_duel 120 = .ok (.iload 6, 2) := by decide +kernel
theorem dX8_duel_122 : decode cX8_duel 122 = .ok (.iload 4, 2) := by decide +kernel
theorem dX8_duel_124 : decode cX8_duel 124 = .ok (.if_icmp .le 8, 3) := by decide +kernel
theorem dX8_duel_127 : decode cX8_duel 127 = .ok (.iload 6, 2) := by decide +kernel
theorem dX8_duel_129 : decode cX8_duel 129 = .ok (.goto 5, 3) := by decide +kernel
theorem dX8_duel_132 : decode cX8_duel 132 = .ok (.iload 4, 2) := by decide +kernel
theorem dX8_duel_134 : decode cX8_duel 134 = .ok (.istore 4, 2) := by decide +kernel
theorem dX8_duel_136 : decode cX8_duel 136 = .ok (.iinc 5 1, 3) := by decide +kernel
theorem dX8_duel_139 : decode cX8_duel 139 = .ok (.goto (-62), 3) := by decide +kernel
theorem dX8_duel_142 : decode cX8_duel 142 = .ok (.aload_n 0, 1) := by decide +kernel
theorem dX8_duel_143 : decode cX8_duel 143 = .ok (.getfield 59, 3) := by decide +kernel
theorem dX8_duel_146 : decode cX8_duel 146 = .ok (.iload_n 3, 1) := by decide +kernel
theorem dX8_duel_147 : decode cX8_duel 147 = .ok (.iload 4, 2) := by decide +kernel
theorem dX8_duel_149 : decode cX8_duel 149 = .ok (.iastore, 1) := by decide +kernel
theorem dX8_duel_150 : decode cX8_duel 150 = .ok (.iinc 3 1, 3) := by decide +kernel
theorem dX8_duel_153 : decode cX8_duel 153 = .ok (.goto (-94), 3) := by decide +kernel
theorem dX8_duel_156 : decode cX8_duel 156 = .ok (.iconst 0, 1) := by decide +kernel
theorem dX8_duel_157 : decode cX8_duel 157 = .ok (.istore_n 3, 1) := by decide +kernel
theorem dX8_duel_158 : decode cX8_duel 158 = .ok (.iload_n 3, 1) := by decide +kernel
theorem dX8_duel_159 : decode cX8_duel 159 = .ok (.bipush 31, 2) := by decide +kernel
theorem dX8_duel_161 : decode cX8_duel 161 = .ok (.if_icmp .ge 21, 3) := by decide +kernel
theorem dX8_duel_164 : decode cX8_duel 164 = .ok (.aload_n 0, 1) := by decide +kernel
theorem dX8_duel_165 : decode cX8_duel 165 = .ok (.getfield 56, 3) := by decide +kernel
theorem dX8_duel_168 : decode cX8_duel 168 = .ok (.iload_n 3, 1) := by decide +kernel
theorem dX8_duel_169 : decode cX8_duel 169 = .ok (.aload_n 0, 1) := by decide +kernel
theorem dX8_duel_170 : decode cX8_duel 170 = .ok (.getfield 59, 3) := by decide +kernel
theorem dX8_duel_173 : decode cX8_duel 173 = .ok (.iload_n 3, 1) := by decide +kernel
theorem dX8_duel_174 : decode cX8_duel 174 = .ok (.iaload, 1) := by decide +kernel
theorem dX8_duel_175 : decode cX8_duel 175 = .ok (.iastore, 1) := by decide +kernel
theorem dX8_duel_176 : decode cX8_duel 176 = .ok (.iinc 3 1, 3) := by decide +kernel
theorem dX8_duel_179 : decode cX8_duel 179 = .ok (.goto (-21), 3) := by decide +kernel
theorem dX8_duel_182 : decode cX8_duel 182 = .ok (.iinc 2 (-1), 3) := by decide +kernel
theorem dX8_duel_185 : decode cX8_duel 185 = .ok (.goto (-132), 3) := by decide +kernel
theorem dX8_duel_188 : decode cX8_duel 188 = .ok (.aload_n 0, 1) := by decide +kernel
theorem dX8_duel_189 : decode cX8_duel 189 = .ok (.getfield 56, 3) := by decide +kernel
theorem dX8_duel_192 : decode cX8_duel 192 = .ok (.aload_n 0, 1) := by decide +kernel
theorem dX8_duel_193 : decode cX8_duel 193 = .ok (.getfield 7, 3) := by decide +kernel
theorem dX8_duel_196 : decode cX8_duel 196 = .ok (.iconst 1, 1) := by decide +kernel
theorem dX8_duel_197 : decode cX8_duel 197 = .ok (.iaload, 1) := by decide +kernel
theorem dX8_duel_198 : decode cX8_duel 198 = .ok (.iaload, 1) := by decide +kernel
theorem dX8_duel_199 : decode cX8_duel 199 = .ok (.ireturn, 1) := by decide +kernel
theorem dX8_cleanWays_0 : decode cX8_cleanWays 0 = .ok (.aload_n 0, 1) := by decide +kernel
theorem dX8_cleanWays_1 : decode cX8_cleanWays 1 = .ok (.iload_n 1, 1) := by decide +kernel
theorem dX8_cleanWays_2 : decode cX8_cleanWays 2 = .ok (.aload_n 0, 1) := by decide +kernel
theorem dX8_cleanWays_3 : decode cX8_cleanWays 3 = .ok (.getfield 7, 3) := by decide +kernel
theorem dX8_cleanWays_6 : decode cX8_cleanWays 6 = .ok (.iconst 1, 1) := by decide +kernel
theorem dX8_cleanWays_7 : decode cX8_cleanWays 7 = .ok (.iaload, 1) := by decide +kernel
theorem dX8_cleanWays_8 : decode cX8_cleanWays 8 = .ok (.invokevirtual 179, 3) := by decide +kernel
theorem dX8_cleanWays_11 : decode cX8_cleanWays 11 = .ok (.istore_n 3, 1) := by decide +kernel
theorem dX8_cleanWays_12 : decode cX8_cleanWays 12 = .ok (.iload_n 3, 1) := by decide +kernel
theorem dX8_cleanWays_13 : decode cX8_cleanWays 13 = .ok (.iconst 3, 1) := by decide +kernel
theorem dX8_cleanWays_14 : decode cX8_cleanWays 14 = .ok (.iadd, 1) := by decide +kernel
theorem dX8_cleanWays_15 : decode cX8_cleanWays 15 = .ok (.aload_n 0, 1) := by decide +kernel
theorem dX8_cleanWays_16 : decode cX8_cleanWays 16 = .ok (.iconst 0, 1) := by decide +kernel
theorem dX8_cleanWays_17 : decode cX8_cleanWays 17 = .ok (.iload_n 1, 1) := by decide +kernel
theorem dX8_cleanWays_18 : decode cX8_cleanWays 18 = .ok (.invokevirtual 182, 3) := by decide +kernel
theorem dX8_cleanWays_21 : decode cX8_cleanWays 21 = .ok (.if_icmp .gt 7, 3) := by decide +kernel
theorem dX8_cleanWays_24 : decode cX8_cleanWays 24 = .ok (.iload_n 2, 1) := by decide +kernel
theorem dX8_cleanWays_25 : decode cX8_cleanWays 25 = .ok (.goto 4, 3) := by decide +kernel
theorem dX8_cleanWays_28 : decode cX8_cleanWays 28 = .ok (.iconst 0, 1) := by decide +kernel
theorem dX8_cleanWays_29 : decode cX8_cleanWays 29 = .ok (.iload_n 3, 1) := by decide +kernel
theorem dX8_cleanWays_30 : decode cX8_cleanWays 30 = .ok (.aload_n 0, 1) := by decide +kernel
theorem dX8_cleanWays_31 : decode cX8_cleanWays 31 = .ok (.iconst 0, 1) := by decide +kernel
theorem dX8_cleanWays_32 : decode cX8_cleanWays 32 = .ok (.iload_n 1, 1) := by decide +kernel
theorem dX8_cleanWays_33 : decode cX8_cleanWays 33 = .ok (.invokevirtual 182, 3) := by decide +kernel
theorem dX8_cleanWays_36 : decode cX8_cleanWays 36 = .ok (.if_icmp .gt 10, 3) := by decide +kernel
theorem dX8_cleanWays_39 : decode cX8_cleanWays 39 = .ok (.bipush 12, 2) := by decide +kernel
theorem dX8_cleanWays_41 : decode cX8_cleanWays 41 = .ok (.iload_n 2, 1) := by decide +kernel
theorem dX8_cleanWays_42 : decode cX8_cleanWays 42 = .ok (.isub, 1) := by decide +kernel
theorem dX8_cleanWays_43 : decode cX8_cleanWays 43 = .ok (.goto 4, 3) := by decide +kernel
theorem dX8_cleanWays_46 : decode cX8_cleanWays 46 = .ok (.iconst 0, 1) := by decide +kernel
theorem dX8_cleanWays_47 : decode cX8_cleanWays 47 = .ok (.iadd, 1) := by decide +kernel
theorem dX8_cleanWays_48 : decode cX8_cleanWays 48 = .ok (.ireturn, 1) := by decide +kernel
theorem dX8_isHere_0 : decode cX8_isHere 0 = .ok (.aload_n 0, 1) := by decide +kernel
theorem dX8_isHere_1 : decode cX8_isHere 1 = .ok (.iload_n 1, 1) := by decide +kernel
theorem dX8_isHere_2 : decode cX8_isHere 2 = .ok (.invokevirtual 219, 3) := by decide +kernel
theorem dX8_isHere_5 : decode cX8_isHere 5 = .ok (.ifCond .ne 21, 3) := by decide +kernel
theorem dX8_isHere_8 : decode cX8_isHere 8 = .ok (.aload_n 0, 1) := by decide +kernel
theorem dX8_isHere_9 : decode cX8_isHere 9 = .ok (.iload_n 1, 1) := by decide +kernel
theorem dX8_isHere_10 : decode cX8_isHere 10 = .ok (.aload_n 0, 1) := by decide +kernel
theorem dX8_isHere_11 : decode cX8_isHere 11 = .ok (.getfield 7, 3) := by decide +kernel
theorem dX8_isHere_14 : decode cX8_isHere 14 = .ok (.iconst 1, 1) := by decide +kernel
theorem dX8_isHere_15 : decode cX8_isHere 15 = .ok (.iaload, 1) := by decide +kernel
theorem dX8_isHere_16 : decode cX8_isHere 16 = .ok (.invokevirtual 185, 3) := by decide +kernel
theorem dX8_isHere_19 : decode cX8_isHere 19 = .ok (.ifCond .eq 7, 3) := by decide +kernel
theorem dX8_isHere_22 : decode cX8_isHere 22 = .ok (.iconst 1, 1) := by decide +kernel
theorem dX8_isHere_23 : decode cX8_isHere 23 = .ok (.goto 4, 3) := by decide +kernel
theorem dX8_isHere_26 : decode cX8_isHere 26 = .ok (.iconst 0, 1) := by decide +kernel
theorem dX8_isHere_27 : decode cX8_isHere 27 = .ok (.ireturn, 1) := by decide +kernel
theorem dX8_odds_0 : decode cX8_odds 0 = .ok (.iload_n 1, 1) := by decide +kernel
theorem dX8_odds_1 : decode cX8_odds 1 = .ok (.i2l, 1) := by decide +kernel
theorem dX8_odds_2 : decode cX8_odds 2 = .ok (.lconst 0, 1) := by decide +kernel
theorem dX8_odds_3 : decode cX8_odds 3 = .ok (.ldc2_w 292, 3) := by decide +kernel
theorem dX8_odds_6 : decode cX8_odds 6 = .ok (.invokestatic 74, 3) := by decide +kernel
theorem dX8_odds_9 : decode cX8_odds 9 = .ok (.ifCond .ne 5, 3) := by decide +kernel
theorem dX8_odds_12 : decode cX8_odds 12 = .ok (.iconst (-1), 1) := by decide +kernel
theorem dX8_odds_13 : decode cX8_odds 13 = .ok (.ireturn, 1) := by decide +kernel
theorem dX8_odds_14 : decode cX8_odds 14 = .ok (.aload_n 0, 1) := by decide +kernel
theorem dX8_odds_15 : decode cX8_odds 15 = .ok (.getfield 157, 3) := by decide +kernel
theorem dX8_odds_18 : decode cX8_odds 18 = .ok (.ifCond .ne 6, 3) := by decide +kernel
theorem dX8_odds_21 : decode cX8_odds 21 = .ok (.bipush (-4), 2) := by decide +kernel
theorem dX8_odds_23 : decode cX8_odds 23 = .ok (.ireturn, 1) := by decide +kernel
theorem dX8_odds_24 : decode cX8_odds 24 = .ok (.lconst 1, 1) := by decide +kernel
theorem dX8_odds_25 : decode cX8_odds 25 = .ok (.lstore_n 2, 1) := by decide +kernel
theorem dX8_odds_26 : decode cX8_odds 26 = .ok (.lconst 1, 1) := by decide +kernel
theorem dX8_odds_27 : decode cX8_odds 27 = .ok (.lstore 4, 2) := by decide +kernel
theorem dX8_odds_29 : decode cX8_odds 29 = .ok (.iconst 0, 1) := by decide +kernel
theorem dX8_odds_30 : decode cX8_odds 30 = .ok (.istore 6, 2) := by decide +kernel
theorem dX8_odds_32 : decode cX8_odds 32 = .ok (.iload 6, 2) := by decide +kernel
theorem dX8_odds_34 : decode cX8_odds 34 = .ok (.aload_n 0, 1) := by decide +kernel
theorem dX8_odds_35 : decode cX8_odds 35 = .ok (.getfield 157, 3) := by decide +kernel
theorem dX8_odds_38 : decode cX8_odds 38 = .ok (.if_icmp .ge 47, 3) := by decide +kernel
theorem dX8_odds_41 : decode cX8_odds 41 = .ok (.aload_n 0, 1) := by decide +kernel
theorem dX8_odds_42 : decode cX8_odds 42 = .ok (.iload 6, 2) := by decide +kernel
theorem dX8_odds_44 : decode cX8_odds 44 = .ok (.invokevirtual 294, 3) := by decide +kernel
theorem dX8_odds_47 : decode cX8_odds 47 = .ok (.ifCond .eq 32, 3) := by decide +kernel
theorem dX8_odds_50 : decode cX8_odds 50 = .ok (.aload_n 0, 1) := by decide +kernel
theorem dX8_odds_51 : decode cX8_odds 51 = .ok (.getfield 16, 3) := by decide +kernel
theorem dX8_odds_54 : decode cX8_odds 54 = .ok (.iload 6, 2) := by decide +kernel
theorem dX8_odds_56 : decode cX8_odds 56 = .ok (.iaload, 1) := by decide +kernel
theorem dX8_odds_57 : decode cX8_odds 57 = .ok (.ifCond .ne 22, 3) := by decide +kernel
theorem dX8_odds_60 : decode cX8_odds 60 = .ok (.lload_n 2, 1) := by decide +kernel
theorem dX8_odds_61 : decode cX8_odds 61 = .ok (.aload_n 0, 1) := by decide +kernel
theorem dX8_odds_62 : decode cX8_odds 62 = .ok (.iload 6, 2) := by decide +kernel
theorem dX8_odds_64 : decode cX8_odds 64 = .ok (.iload_n 1, 1) := by decide +kernel
theorem dX8_odds_65 : decode cX8_odds 65 = .ok (.invokevirtual 297, 3) := by decide +kernel
theorem dX8_odds_68 : decode cX8_odds 68 = .ok (.i2l, 1) := by decide +kernel
theorem dX8_odds_69 : decode cX8_odds 69 = .ok (.lmul, 1) := by decide +kernel
theorem dX8_odds_70 : decode cX8_odds 70 = .ok (.lstore_n 2, 1) := by decide +kernel
theorem dX8_odds_71 : decode cX8_odds 71 = .ok (.lload 4, 2) := by decide +kernel
theorem dX8_odds_73 : decode cX8_odds 73 = .ok (.ldc2_w 292, 3) := by decide +kernel
theorem dX8_odds_76 : decode cX8_odds 76 = .ok (.lmul, 1) := by decide +kernel
theorem dX8_odds_77 : decode cX8_odds 77 = .ok (.lstore 4, 2) := by decide +kernel
theorem dX8_odds_79 : decode cX8_odds 79 = .ok (.iinc 6 1, 3) := by decide +kernel
theorem dX8_odds_82 : decode cX8_odds 82 = .ok (.goto (-50), 3) := by decide +kernel
theorem dX8_odds_85 : decode cX8_odds 85 = .ok (.aload_n 0, 1) := by decide +kernel
theorem dX8_odds_86 : decode cX8_odds 86 = .ok (.lload_n 2, 1) := by decide +kernel
theorem dX8_odds_87 : decode cX8_odds 87 = .ok (.lload 4, 2) := by decide +kernel
theorem dX8_odds_89 : decode cX8_odds 89 = .ok (.invokevirtual 246, 3) := by decide +kernel
theorem dX8_odds_92 : decode cX8_odds 92 = .ok (.ireturn, 1) := by decide +kernel
theorem dX8_mid_0 : decode cX8_mid 0 = .ok (.iload_n 1, 1) := by decide +kernel
theorem dX8_mid_1 : decode cX8_mid 1 = .ok (.i2l, 1) := by decide +kernel
theorem dX8_mid_2 : decode cX8_mid 2 = .ok (.lconst 0, 1) := by decide +kernel
theorem dX8_mid_3 : decode cX8_mid 3 = .ok (.ldc2_w 292, 3) := by decide +kernel
theorem dX8_mid_6 : decode cX8_mid 6 = .ok (.invokestatic 74, 3) := by decide +kernel
theorem dX8_mid_9 : decode cX8_mid 9 = .ok (.ifCond .ne 5, 3) := by decide +kernel
theorem dX8_mid_12 : decode cX8_mid 12 = .ok (.iconst (-1), 1) := by decide +kernel
theorem dX8_mid_13 : decode cX8_mid 13 = .ok (.ireturn, 1) := by decide +kernel
theorem dX8_mid_14 : decode cX8_mid 14 = .ok (.aload_n 0, 1) := by decide +kernel
theorem dX8_mid_15 : decode cX8_mid 15 = .ok (.getfield 157, 3) := by decide +kernel
theorem dX8_mid_18 : decode cX8_mid 18 = .ok (.ifCond .ne 6, 3) := by decide +kernel
theorem dX8_mid_21 : decode cX8_mid 21 = .ok (.bipush (-4), 2) := by decide +kernel
theorem dX8_mid_23 : decode cX8_mid 23 = .ok (.ireturn, 1) := by decide +kernel
theorem dX8_mid_24 : decode cX8_mid 24 = .ok (.lconst 0, 1) := by decide +kernel
theorem dX8_mid_25 : decode cX8_mid 25 = .ok (.lstore_n 2, 1) := by decide +kernel
theorem dX8_mid_26 : decode cX8_mid 26 = .ok (.iconst 0, 1) := by decide +kernel
theorem dX8_mid_27 : decode cX8_mid 27 = .ok (.istore 4, 2) := by decide +kernel
theorem dX8_mid_29 : decode cX8_mid 29 = .ok (.iload 4, 2) := by decide +kernel
theorem dX8_mid_31 : decode cX8_mid 31 = .ok (.aload_n 0, 1) := by decide +kernel
theorem dX8_mid_32 : decode cX8_mid 32 = .ok (.getfield 157, 3) := by decide +kernel
theorem dX8_mid_35 : decode cX8_mid 35 = .ok (.if_icmp .ge 33, 3) := by decide +kernel
theorem dX8_mid_38 : decode cX8_mid 38 = .ok (.lload_n 2, 1) := by decide +kernel
theorem dX8_mid_39 : decode cX8_mid 39 = .ok (.aload_n 0, 1) := by decide +kernel
theorem dX8_mid_40 : decode cX8_mid 40 = .ok (.iload 4, 2) := by decide +kernel
theorem dX8_mid_42 : decode cX8_mid 42 = .ok (.invokevirtual 294, 3) := by decide +kernel
theorem dX8_mid_45 : decode cX8_mid 45 = .ok (.ifCond .eq 14, 3) := by decide +kernel
theorem dX8_mid_48 : decode cX8_mid 48 = .ok (.aload_n 0, 1) := by decide +kernel
theorem dX8_mid_49 : decode cX8_mid 49 = .ok (.iload 4, 2) := by decide +kernel
theorem dX8_mid_51 : decode cX8_mid 51 = .ok (.iload_n 1, 1) := by decide +kernel
theorem dX8_mid_52 : decode cX8_mid 52 = .ok (.invokevirtual 297, 3) := by decide +kernel
theorem dX8_mid_55 : decode cX8_mid 55 = .ok (.i2l, 1) := by decide +kernel
theorem dX8_mid_56 : decode cX8_mid 56 = .ok (.goto 4, 3) := by decide +kernel
theorem dX8_mid_59 : decode cX8_mid 59 = .ok (.lconst 0, 1) := by decide +kernel
theorem dX8_mid_60 : decode cX8_mid 60 = .ok (.ladd, 1) := by decide +kernel
theorem dX8_mid_61 : decode cX8_mid 61 = .ok (.lstore_n 2, 1) := by decide +kernel
theorem dX8_mid_62 : decode cX8_mid 62 = .ok (.iinc 4 1, 3) := by decide +kernel
theorem dX8_mid_65 : decode cX8_mid 65 = .ok (.goto (-36), 3) := by decide +kernel
theorem dX8_mid_68 : decode cX8_mid 68 = .ok (.aload_n 0, 1) := by decide +kernel
theorem dX8_mid_69 : decode cX8_mid 69 = .ok (.lload_n 2, 1) := by decide +kernel
theorem dX8_mid_70 : decode cX8_mid 70 = .ok (.ldc2_w 292, 3) := by decide +kernel
theorem dX8_mid_73 : decode cX8_mid 73 = .ok (.invokevirtual 246, 3) := by decide +kernel
theorem dX8_mid_76 : decode cX8_mid 76 = .ok (.ireturn, 1) := by decide +kernel
theorem dX8_lots_0 : decode cX8_lots 0 = .ok (.iload_n 1, 1) := by decide +kernel
theorem dX8_lots_1 : decode cX8_lots 1 = .ok (.i2l, 1) := by decide +kernel
theorem dX8_lots_2 : decode cX8_lots 2 = .ok (.lconst 1, 1) := by decide +kernel
theorem dX8_lots_3 : decode cX8_lots 3 = .ok (.ldc2_w 300, 3) := by decide +kernel
theorem dX8_lots_6 : decode cX8_lots 6 = .ok (.invokestatic 74, 3) := by decide +kernel
theorem dX8_lots_9 : decode cX8_lots 9 = .ok (.ifCond .eq 15, 3) := by decide +kernel
theorem dX8_lots_12 : decode cX8_lots 12 = .ok (.iload_n 2, 1) := by decide +kernel
theorem dX8_lots_13 : decode cX8_lots 13 = .ok (.i2l, 1) := by decide +kernel
theorem dX8_lots_14 : decode cX8_lots 14 = .ok (.lconst 1, 1) := by decide +kernel
theorem dX8_lots_15 : decode cX8_lots 15 = .ok (.ldc2_w 302, 3) := by decide +kernel
theorem dX8_lots_18 : decode cX8_lots 18 = .ok (.invokestatic 74, 3) := by decide +kernel
theorem dX8_lots_21 : decode cX8_lots 21 = .ok (.ifCond .ne 5, 3) := by decide +kernel
theorem dX8_lots_24 : decode cX8_lots 24 = .ok (.iconst (-1), 1) := by decide +kernel
theorem dX8_lots_25 : decode cX8_lots 25 = .ok (.ireturn, 1) := by decide +kernel
theorem dX8_lots_26 : decode cX8_lots 26 = .ok (.aload_n 0, 1) := by decide +kernel
theorem dX8_lots_27 : decode cX8_lots 27 = .ok (.getfield 157, 3) := by decide +kernel
theorem dX8_lots_30 : decode cX8_lots 30 = .ok (.ifCond .ne 6, 3) := by decide +kernel
theorem dX8_lots_33 : decode cX8_lots 33 = .ok (.bipush (-4), 2) := by decide +kernel
theorem dX8_lots_35 : decode cX8_lots 35 = .ok (.ireturn, 1) := by decide +kernel
theorem dX8_lots_36 : decode cX8_lots 36 = .ok (.aload_n 0, 1) := by decide +kernel
theorem dX8_lots_37 : decode cX8_lots 37 = .ok (.getfield 7, 3) := by decide +kernel
theorem dX8_lots_40 : decode cX8_lots 40 = .ok (.iconst 0, 1) := by decide +kernel
theorem dX8_lots_41 : decode cX8_lots 41 = .ok (.iaload, 1) := by decide +kernel
theorem dX8_lots_42 : decode cX8_lots 42 = .ok (.iload_n 1, 1) := by decide +kernel
theorem dX8_lots_43 : decode cX8_lots 43 = .ok (.iadd, 1) := by decide +kernel
theorem dX8_lots_44 : decode cX8_lots 44 = .ok (.bipush 40, 2) := by decide +kernel
theorem dX8_lots_46 : decode cX8_lots 46 = .ok (.if_icmp .le 6, 3) := by decide +kernel
theorem dX8_lots_49 : decode cX8_lots 49 = .ok (.bipush (-2), 2) := by decide +kernel
theorem dX8_lots_51 : decode cX8_lots 51 = .ok (.ireturn, 1) := by decide +kernel
theorem dX8_lots_52 : decode cX8_lots 52 = .ok (.iload_n 2, 1) := by decide +kernel
theorem dX8_lots_53 : decode cX8_lots 53 = .ok (.i2l, 1) := by decide +kernel
theorem dX8_lots_54 : decode cX8_lots 54 = .ok (.lstore_n 3, 1) := by decide +kernel
theorem dX8_lots_55 : decode cX8_lots 55 = .ok (.aload_n 0, 1) := by decide +kernel
theorem dX8_lots_56 : decode cX8_lots 56 = .ok (.getfield 7, 3) := by decide +kernel
theorem dX8_lots_59 : decode cX8_lots 59 = .ok (.iconst 4, 1) := by decide +kernel
theorem dX8_lots_60 : decode cX8_lots 60 = .ok (.iaload, 1) := by decide +kernel
theorem dX8_lots_61 : decode cX8_lots 61 = .ok (.istore 5, 2) := by decide +kernel
theorem dX8_lots_63 : decode cX8_lots 63 = .ok (.iconst 0, 1) := by decide +kernel
theorem dX8_lots_64 : decode cX8_lots 64 = .ok (.istore 6, 2) := by decide +kernel
theorem dX8_lots_66 : decode cX8_lots 66 = .ok (.iload 6, 2) := by decide +kernel
theorem dX8_lots_68 : decode cX8_lots 68 = .ok (.iload_n 1, 1) := by decide +kernel
theorem dX8_lots_69 : decode cX8_lots 69 = .ok (.if_icmp .ge 124, 3) := by decide +kernel
theorem dX8_lots_72 : decode cX8_lots 72 = .ok (.lload_n 3, 1) := by decide +kernel
theorem dX8_lots_73 : decode cX8_lots 73 = .ok (.ldc2_w 304, 3) := by decide +kernel
theorem dX8_lots_76 : decode cX8_lots 76 = .ok (.lmul, 1) := by decide +kernel
theorem dX8_lots_77 : decode cX8_lots 77 = .ok (.ldc2_w 306, 3) := by decide +kernel
theorem dX8_lots_80 : decode cX8_lots 80 = .ok (.lrem, 1) := by decide +kernel
theorem dX8_lots_81 : decode cX8_lots 81 = .ok (.lstore_n 3, 1) := by decide +kernel
theorem dX8_lots_82 : decode cX8_lots 82 = .ok (.lload_n 3, 1) := by decide +kernel
theorem dX8_lots_83 : decode cX8_lots 83 = .ok (.ldc2_w 194, 3) := by decide +kernel
theorem dX8_lots_86 : decode cX8_lots 86 = .ok (.ldiv, 1) := by decide +kernel
theorem dX8_lots_87 : decode cX8_lots 87 = .ok (.aload_n 0, 1) := by decide +kernel
theorem dX8_lots_88 : decode cX8_lots 88 = .ok (.getfield 157, 3) := by decide +kernel
theorem dX8_lots_91 : decode cX8_lots 91 = .ok (.i2l, 1) := by decide +kernel
theorem dX8_lots_92 : decode cX8_lots 92 = .ok (.lrem, 1) := by decide +kernel
theorem dX8_lots_93 : decode cX8_lots 93 = .ok (.l2i, 1) := by decide +kernel
theorem dX8_lots_94 : decode cX8_lots 94 = .ok (.istore 7, 2) := by decide +kernel
theorem dX8_lots_96 : decode cX8_lots 96 = .ok (.aload_n 0, 1) := by decide +kernel
theorem dX8_lots_97 : decode cX8_lots 97 = .ok (.invokevirtual 210, 3) := by decide +kernel
theorem dX8_lots_100 : decode cX8_lots 100 = .ok (.lload_n 3, 1) := by decide +kernel
theorem dX8_lots_101 : decode cX8_lots 101 = .ok (.ldc2_w 78, 3) := by decide +kernel
theorem dX8_lots_104 : decode cX8_lots 104 = .ok (.lrem, 1) := by decide +kernel
theorem dX8_lots_105 : decode cX8_lots 105 = .ok (.lconst 0, 1) := by decide +kernel
theorem dX8_lots_106 : decode cX8_lots 106 = .ok (.lcmp, 1) := by decide +kernel
theorem dX8_lots_107 : decode cX8_lots 107 = .ok (.ifCond .ne 34, 3) := by decide +kernel
theorem dX8_lots_110 : decode cX8_lots 110 = .ok (.aload_n 0, 1) := by decide +kernel
theorem dX8_lots_111 : decode cX8_lots 111 = .ok (.getfield 7, 3) := by decide +kernel
theorem dX8_lots_114 : decode cX8_lots 114 = .ok (.iconst 1, 1) := by decide +kernel
theorem dX8_lots_115 : decode cX8_lots 115 = .ok (.aload_n 0, 1) := by decide +kernel
theorem dX8_lots_116 : decode cX8_lots 116 = .ok (.getfield 7, 3) := by decide +kernel
theorem dX8_lots_119 : decode cX8_lots 119 = .ok (.iconst 1, 1) := by decide +kernel
theorem dX8_lots_120 : decode cX8_lots 120 = .ok (.iaload, 1) := by decide +kernel
theorem dX8_lots_121 : decode cX8_lots 121 = .ok (.lload_n 3, 1) := by decide +kernel
theorem dX8_lots_122 : decode cX8_lots 122 = .ok (.ldc2_w 194, 3) := by decide +kernel
theorem dX8_lots_125 : decode cX8_lots 125 = .ok (.ldiv, 1) := by decide +kernel
theorem dX8_lots_126 : decode cX8_lots 126 = .ok (.ldc2_w 308, 3) := by decide +kernel
theorem dX8_lots_129 : decode cX8_lots 129 = .ok (.lrem, 1) := by decide +kernel
theorem dX8_lots_130 : decode cX8_lots 130 = .ok (.l2i, 1) := by decide +kernel
theorem dX8_lots_131 : decode cX8_lots 131 = .ok (.iadd, 1) := by decide +kernel
theorem dX8_lots_132 : decode cX8_lots 132 = .ok (.iconst 5, 1) := by decide +kernel
theorem dX8_lots_133 : decode cX8_lots 133 = .ok (.isub, 1) := by decide +kernel
theorem dX8_lots_134 : decode cX8_lots 134 = .ok (.invokestatic 213, 3) := by decide +kernel
theorem dX8_lots_137 : decode cX8_lots 137 = .ok (.iastore, 1) := by decide +kernel
theorem dX8_lots_138 : decode cX8_lots 138 = .ok (.goto 49, 3) := by decide +kernel
theorem dX8_lots_141 : decode cX8_lots 141 = .ok (.aload_n 0, 1) := by decide +kernel
theorem dX8_lots_142 : decode cX8_lots 142 = .ok (.iload 7, 2) := by decide +kernel
theorem dX8_lots_144 : decode cX8_lots 144 = .ok (.invokevirtual 219, 3) := by decide +kernel
theorem dX8_lots_147 : decode cX8_lots 147 = .ok (.ifCond .ne 14, 3) := by decide +kernel
theorem dX8_lots_150 : decode cX8_lots 150 = .ok (.aload_n 0, 1) := by decide +kernel
theorem dX8_lots_151 : decode cX8_lots 151 = .ok (.iconst 0, 1) := by decide +kernel
theorem dX8_lots_152 : decode cX8_lots 152 = .ok (.iload 7, 2) := by decide +kernel
theorem dX8_lots_154 : decode cX8_lots 154 = .ok (.invokevirtual 229, 3) := by decide +kernel
theorem dX8_lots_157 : decode cX8_lots 157 = .ok (.pop, 1) := by decide +kernel
theorem dX8_lots_158 : decode cX8_lots 158 = .ok (.goto 29, 3) := by decide +kernel
theorem dX8_lots_161 : decode cX8_lots 161 = .ok (.aload_n 0, 1) := by decide +kernel
theorem dX8_lots_162 : decode cX8_lots 162 = .ok (.getfield 7, 3) := by decide +kernel
theorem dX8_lots_165 : decode cX8_lots 165 = .ok (.iconst 5, 1) := by decide +kernel
theorem dX8_lots_166 : decode cX8_lots 166 = .ok (.iload 7, 2) := by decide +kernel
theorem dX8_lots_168 : decode cX8_lots 168 = .ok (.iadd, 1) := by decide +kernel
theorem dX8_lots_169 : decode cX8_lots 169 = .ok (.iaload, 1) := by decide +kernel
theorem dX8_lots_170 : decode cX8_lots 170 = .ok (.iconst 3, 1) := by decide +kernel
theorem dX8_lots_171 : decode cX8_lots 171 = .ok (.if_icmp .ge 16, 3) := by decide +kernel
theorem dX8_lots_174 : decode cX8_lots 174 = .ok (.aload_n 0, 1) := by decide +kernel
theorem dX8_lots_175 : decode cX8_lots 175 = .ok (.getfield 7, 3) := by decide +kernel
theorem dX8_lots_178 : decode cX8_lots 178 = .ok (.iconst 5, 1) := by decide +kernel
theorem dX8_lots_179 : decode cX8_lots 179 = .ok (.iload 7, 2) := by decide +kernel
theorem dX8_lots_181 : decode cX8_lots 181 = .ok (.iadd, 1) := by decide +kernel
theorem dX8_lots_182 : decode cX8_lots 182 = .ok (.dup2, 1) := by decide +kernel
theorem dX8_lots_183 : decode cX8_lots 183 = .ok (.iaload, 1) := by decide +kernel
theorem dX8_lots_184 : decode cX8_lots 184 = .ok (.iconst 1, 1) := by decide +kernel
theorem dX8_lots_185 : decode cX8_lots 185 = .ok (.iadd, 1) := by decide +kernel
theorem dX8_lots_186 : decode cX8_lots 186 = .ok (.iastore, 1) := by decide +kernel
theorem dX8_lots_187 : decode cX8_lots 187 = .ok (.iinc 6 1, 3) := by decide +kernel
theorem dX8_lots_190 : decode cX8_lots 190 = .ok (.goto (-124), 3) := by decide +kernel
theorem dX8_lots_193 : decode cX8_lots 193 = .ok (.aload_n 0, 1) := by decide +kernel
theorem dX8_lots_194 : decode cX8_lots 194 = .ok (.getfield 7, 3) := by decide +kernel
theorem dX8_lots_197 : decode cX8_lots 197 = .ok (.iconst 4, 1) := by decide +kernel
theorem dX8_lots_198 : decode cX8_lots 198 = .ok (.iaload, 1) := by decide +kernel
theorem dX8_lots_199 : decode cX8_lots 199 = .ok (.iload 5, 2) := by decide +kernel
theorem dX8_lots_201 : decode cX8_lots 201 = .ok (.isub, 1) := by decide +kernel
theorem dX8_lots_202 : decode cX8_lots 202 = .ok (.ireturn, 1) := by decide +kernel
theorem dX8_asked_0 : decode cX8_asked 0 = .ok (.aload_n 0, 1) := by decide +kernel
theorem dX8_asked_1 : decode cX8_asked 1 = .ok (.getfield 69, 3) := by decide +kernel
theorem dX8_asked_4 : decode cX8_asked 4 = .ok (.ireturn, 1) := by decide +kernel
theorem dX8_upper_0 : decode cX8_upper 0 = .ok (.aload_n 0, 1) := by decide +kernel
theorem dX8_upper_1 : decode cX8_upper 1 = .ok (.getfield 243, 3) := by decide +kernel
theorem dX8_upper_4 : decode cX8_upper 4 = .ok (.lreturn, 1) := by decide +kernel
theorem dX8_lower_0 : decode cX8_lower 0 = .ok (.aload_n 0, 1) := by decide +kernel
theorem dX8_lower_1 : decode cX8_lower 1 = .ok (.getfield 37, 3) := by decide +kernel
theorem dX8_lower_4 : decode cX8_lower 4 = .ok (.lreturn, 1) := by decide +kernel
theorem dX8_sumOf_0 : decode cX8_sumOf 0 = .ok (.iconst 0, 1) := by decide +kernel
theorem dX8_sumOf_1 : decode cX8_sumOf 1 = .ok (.istore_n 2, 1) := by decide +kernel
theorem dX8_sumOf_2 : decode cX8_sumOf 2 = .ok (.iconst 0, 1) := by decide +kernel
theorem dX8_sumOf_3 : decode cX8_sumOf 3 = .ok (.istore_n 3, 1) := by decide +kernel
theorem dX8_sumOf_4 : decode cX8_sumOf 4 = .ok (.iload_n 3, 1) := by decide +kernel
theorem dX8_sumOf_5 : decode cX8_sumOf 5 = .ok (.aload_n 0, 1) := by decide +kernel
theorem dX8_sumOf_6 : decode cX8_sumOf 6 = .ok (.getfield 157, 3) := by decide +kernel
theorem dX8_sumOf_9 : decode cX8_sumOf 9 = .ok (.if_icmp .ge 43, 3) := by decide +kernel
theorem dX8_sumOf_12 : decode cX8_sumOf 12 = .ok (.iload_n 2, 1) := by decide +kernel
theorem dX8_sumOf_13 : decode cX8_sumOf 13 = .ok (.iload_n 1, 1) := by decide +kernel
theorem dX8_sumOf_14 : decode cX8_sumOf 14 = .ok (.bipush 6, 2) := by decide +kernel
theorem dX8_sumOf_16 : decode cX8_sumOf 16 = .ok (.if_icmp .ne 14, 3) := by decide +kernel
theorem dX8_sumOf_19 : decode cX8_sumOf 19 = .ok (.aload_n 0, 1) := by decide +kernel
theorem dX8_sumOf_20 : decode cX8_sumOf 20 = .ok (.getfield 7, 3) := by decide +kernel
theorem dX8_sumOf_23 : decode cX8_sumOf 23 = .ok (.iconst 5, 1) := by decide +kernel
theorem dX8_sumOf_24 : decode cX8_sumOf 24 = .ok (.iload_n 3, 1) := by decide +kernel
theorem dX8_sumOf_25 : decode cX8_sumOf 25 = .ok (.iadd, 1) := by decide +kernel
theorem dX8_sumOf_26 : decode cX8_sumOf 26 = .ok (.iaload, 1) := by decide +kernel
theorem dX8_sumOf_27 : decode cX8_sumOf 27 = .ok (.goto 17, 3) := by decide +kernel
theorem dX8_sumOf_30 : decode cX8_sumOf 30 = .ok (.aload_n 0, 1) := by decide +kernel
theorem dX8_sumOf_31 : decode cX8_sumOf 31 = .ok (.iload_n 3, 1) := by decide +kernel
theorem dX8_sumOf_32 : decode cX8_sumOf 32 = .ok (.iconst 1, 1) := by decide +kernel
theorem dX8_sumOf_33 : decode cX8_sumOf 33 = .ok (.invokevirtual 199, 3) := by decide +kernel
theorem dX8_sumOf_36 : decode cX8_sumOf 36 = .ok (.ifCond .eq 7, 3) := by decide +kernel
theorem dX8_sumOf_39 : decode cX8_sumOf 39 = .ok (.iconst 1, 1) := by decide +kernel
theorem dX8_sumOf_40 : decode cX8_sumOf 40 = .ok (.goto 4, 3) := by decide +kernel
theorem dX8_sumOf_43 : decode cX8_sumOf 43 = .ok (.iconst 0, 1) := by decide +kernel
theorem dX8_sumOf_44 : decode cX8_sumOf 44 = .ok (.iadd, 1) := by decide +kernel
theorem dX8_sumOf_45 : decode cX8_sumOf 45 = .ok (.istore_n 2, 1) := by decide +kernel
theorem dX8_sumOf_46 : decode cX8_sumOf 46 = .ok (.iinc 3 1, 3) := by decide +kernel
theorem dX8_sumOf_49 : decode cX8_sumOf 49 = .ok (.goto (-45), 3) := by decide +kernel
theorem dX8_sumOf_52 : decode cX8_sumOf 52 = .ok (.iload_n 2, 1) := by decide +kernel
theorem dX8_sumOf_53 : decode cX8_sumOf 53 = .ok (.ireturn, 1) := by decide +kernel
theorem dX8_thereOf_0 : decode cX8_thereOf 0 = .ok (.iconst 0, 1) := by decide +kernel
theorem dX8_thereOf_1 : decode cX8_thereOf 1 = .ok (.istore_n 2, 1) := by decide +kernel
theorem dX8_thereOf_2 : decode cX8_thereOf 2 = .ok (.iconst 0, 1) := by decide +kernel
theorem dX8_thereOf_3 : decode cX8_thereOf 3 = .ok (.istore_n 3, 1) := by decide +kernel
theorem dX8_thereOf_4 : decode cX8_thereOf 4 = .ok (.iload_n 3, 1) := by decide +kernel
theorem dX8_thereOf_5 : decode cX8_thereOf 5 = .ok (.bipush 6, 2) := by decide +kernel
theorem dX8_thereOf_7 : decode cX8_thereOf 7 = .ok (.if_icmp .ge 90, 3) := by decide +kernel
theorem dX8_thereOf_10 : decode cX8_thereOf 10 = .ok (.iload_n 2, 1) := by decide +kernel
theorem dX8_thereOf_11 : decode cX8_thereOf 11 = .ok (.iload_n 1, 1) := by decide +kernel
theorem dX8_thereOf_12 : decode cX8_thereOf 12 = .ok (.bipush 8, 2) := by decide +kernel
theorem dX8_thereOf_14 : decode cX8_thereOf 14 = .ok (.if_icmp .ne 20, 3) := by decide +kernel
theorem dX8_thereOf_17 : decode cX8_thereOf 17 = .ok (.aload_n 0, 1) := by decide +kernel
theorem dX8_thereOf_18 : decode cX8_thereOf 18 = .ok (.getfield 25, 3) := by decide +kernel
theorem dX8_thereOf_21 : decode cX8_thereOf 21 = .ok (.iload_n 3, 1) := by decide +kernel
theorem dX8_thereOf_22 : decode cX8_thereOf 22 = .ok (.iaload, 1) := by decide +kernel
theorem dX8_thereOf_23 : decode cX8_thereOf 23 = .ok (.ifCond .ge 7, 3) := by decide +kernel
theorem dX8_thereOf_26 : decode cX8_thereOf 26 = .ok (.iconst 0, 1) := by decide +kernel
theorem dX8_thereOf_27 : decode cX8_thereOf 27 = .ok (.goto 62, 3) := by decide +kernel
theorem dX8_thereOf_30 : decode cX8_thereOf 30 = .ok (.iconst 1, 1) := by decide +kernel
theorem dX8_thereOf_31 : decode cX8_thereOf 31 = .ok (.goto 58, 3) := by decide +kernel
theorem dX8_thereOf_34 : decode cX8_thereOf 34 = .ok (.iload_n 1, 1) := by decide +kernel
theorem dX8_thereOf_35 : decode cX8_thereOf 35 = .ok (.bipush 9, 2) := by decide +kernel
theorem dX8_thereOf_37 : decode cX8_thereOf 37 = .ok (.if_icmp .ne 25, 3) := by decide +kernel
theorem dX8_thereOf_40 : decode cX8_thereOf 40 = .ok (.iload_n 3, 1) := by decide +kernel
theorem dX8_thereOf_41 : decode cX8_thereOf 41 = .ok (.iconst 4, 1) := by decide +kernel
theorem dX8_thereOf_42 : decode cX8_thereOf 42 = .ok (.if_icmp .ge 16, 3) := by decide +kernel
theorem dX8_thereOf_45 : decode cX8_thereOf 45 = .ok (.aload_n 0, 1) := by decide +kernel
theorem dX8_thereOf_46 : decode cX8_thereOf 46 = .ok (.getfield 31, 3) := by decide +kernel
theorem dX8_thereOf_49 : decode cX8_thereOf 49 = .ok (.iload_n 3, 1) := by decide +kernel
theorem dX8_thereOf_50 : decode cX8_thereOf 50 = .ok (.iaload, 1) := by decide +kernel
theorem dX8_thereOf_51 : decode cX8_thereOf 51 = .ok (.ifCond .lt 7, 3) := by decide +kernel
theorem dX8_thereOf_54 : decode cX8_thereOf 54 = .ok (.iconst 1, 1) := by decide +kernel
theorem dX8_thereOf_55 : decode cX8_thereOf 55 = .ok (.goto 34, 3) := by decide +kernel
theorem dX8_thereOf_58 : decode cX8_thereOf 58 = .ok (.iconst 0, 1) := by decide +kernel
theorem dX8_thereOf_59 : decode cX8_thereOf 59 = .ok (.goto 30, 3) := by decide +kernel
theorem dX8_thereOf_62 : decode cX8_thereOf 62 = .ok (.iload_n 3, 1) := by decide +kernel
theorem dX8_thereOf_63 : decode cX8_thereOf 63 = .ok (.iconst 3, 1) := by decide +kernel
theorem dX8_thereOf_64 : decode cX8_thereOf 64 = .ok (.if_icmp .ge 24, 3) := by decide +kernel
theorem dX8_thereOf_67 : decode cX8_thereOf 67 = .ok (.aload_n 0, 1) := by decide +kernel
theorem dX8_thereOf_68 : decode cX8_thereOf 68 = .ok (.getfield 7, 3) := by decide +kernel
theorem dX8_thereOf_71 : decode cX8_thereOf 71 = .ok (.sipush 657, 3) := by decide +kernel
theorem dX8_thereOf_74 : decode cX8_thereOf 74 = .ok (.iconst 1, 1) := by decide +kernel
theorem dX8_thereOf_75 : decode cX8_thereOf 75 = .ok (.iload_n 3, 1) := by decide +kernel
theorem dX8_thereOf_76 : decode cX8_thereOf 76 = .ok (.iadd, 1) := by decide +kernel
theorem dX8_thereOf_77 : decode cX8_thereOf 77 = .ok (.imul, 1) := by decide +kernel
theorem dX8_thereOf_78 : decode cX8_thereOf 78 = .ok (.iconst 0, 1) := by decide +kernel
theorem dX8_thereOf_79 : decode cX8_thereOf 79 = .ok (.iadd, 1) := by decide +kernel
theorem dX8_thereOf_80 : decode cX8_thereOf 80 = .ok (.iaload, 1) := by decide +kernel
theorem dX8_thereOf_81 : decode cX8_thereOf 81 = .ok (.ifCond .lt 7, 3) := by decide +kernel
theorem dX8_thereOf_84 : decode cX8_thereOf 84 = .ok (.iconst 1, 1) := by decide +kernel
theorem dX8_thereOf_85 : decode cX8_thereOf 85 = .ok (.goto 4, 3) := by decide +kernel
theorem dX8_thereOf_88 : decode cX8_thereOf 88 = .ok (.iconst 0, 1) := by decide +kernel
theorem dX8_thereOf_89 : decode cX8_thereOf 89 = .ok (.iadd, 1) := by decide +kernel
theorem dX8_thereOf_90 : decode cX8_thereOf 90 = .ok (.istore_n 2, 1) := by decide +kernel
theorem dX8_thereOf_91 : decode cX8_thereOf 91 = .ok (.iinc 3 1, 3) := by decide +kernel
theorem dX8_thereOf_94 : decode cX8_thereOf 94 = .ok (.goto (-90), 3) := by decide +kernel
theorem dX8_thereOf_97 : decode cX8_thereOf 97 = .ok (.iload_n 2, 1) := by decide +kernel
theorem dX8_thereOf_98 : decode cX8_thereOf 98 = .ok (.ireturn, 1) := by decide +kernel
theorem dX8_countOf_0 : decode cX8_countOf 0 = .ok (.iload_n 1, 1) := by decide +kernel
theorem dX8_countOf_1 : decode cX8_countOf 1 = .ok (.tableswitch 93 0 7 #[47, 52, 59, 66, 73, 80, 87, 87], 47) := by decide +kernel
theorem dX8_countOf_48 : decode cX8_countOf 48 = .ok (.aload_n 0, 1) := by decide +kernel
theorem dX8_countOf_49 : decode cX8_countOf 49 = .ok (.getfield 157, 3) := by decide +kernel
theorem dX8_countOf_52 : decode cX8_countOf 52 = .ok (.ireturn, 1) := by decide +kernel
theorem dX8_countOf_53 : decode cX8_countOf 53 = .ok (.aload_n 0, 1) := by decide +kernel
theorem dX8_countOf_54 : decode cX8_countOf 54 = .ok (.getfield 7, 3) := by decide +kernel
theorem dX8_countOf_57 : decode cX8_countOf 57 = .ok (.iconst 1, 1) := by decide +kernel
theorem dX8_countOf_58 : decode cX8_countOf 58 = .ok (.iaload, 1) := by decide +kernel
theorem dX8_countOf_59 : decode cX8_countOf 59 = .ok (.ireturn, 1) := by decide +kernel
theorem dX8_countOf_60 : decode cX8_countOf 60 = .ok (.aload_n 0, 1) := by decide +kernel
theorem dX8_countOf_61 : decode cX8_countOf 61 = .ok (.getfield 7, 3) := by decide +kernel
theorem dX8_countOf_64 : decode cX8_countOf 64 = .ok (.iconst 0, 1) := by decide +kernel
theorem dX8_countOf_65 : decode cX8_countOf 65 = .ok (.iaload, 1) := by decide +kernel
theorem dX8_countOf_66 : decode cX8_countOf 66 = .ok (.ireturn, 1) := by decide +kernel
theorem dX8_countOf_67 : decode cX8_countOf 67 = .ok (.aload_n 0, 1) := by decide +kernel
theorem dX8_countOf_68 : decode cX8_countOf 68 = .ok (.getfield 7, 3) := by decide +kernel
theorem dX8_countOf_71 : decode cX8_countOf 71 = .ok (.iconst 2, 1) := by decide +kernel
theorem dX8_countOf_72 : decode cX8_countOf 72 = .ok (.iaload, 1) := by decide +kernel
theorem dX8_countOf_73 : decode cX8_countOf 73 = .ok (.ireturn, 1) := by decide +kernel
theorem dX8_countOf_74 : decode cX8_countOf 74 = .ok (.aload_n 0, 1) := by decide +kernel
theorem dX8_countOf_75 : decode cX8_countOf 75 = .ok (.getfield 7, 3) := by decide +kernel
theorem dX8_countOf_78 : decode cX8_countOf 78 = .ok (.iconst 3, 1) := by decide +kernel
theorem dX8_countOf_79 : decode cX8_countOf 79 = .ok (.iaload, 1) := by decide +kernel
theorem dX8_countOf_80 : decode cX8_countOf 80 = .ok (.ireturn, 1) := by decide +kernel
theorem dX8_countOf_81 : decode cX8_countOf 81 = .ok (.aload_n 0, 1) := by decide +kernel
theorem dX8_countOf_82 : decode cX8_countOf 82 = .ok (.getfield 7, 3) := by decide +kernel
theorem dX8_countOf_85 : decode cX8_countOf 85 = .ok (.iconst 4, 1) := by decide +kernel
theorem dX8_countOf_86 : decode cX8_countOf 86 = .ok (.iaload, 1) := by decide +kernel
theorem dX8_countOf_87 : decode cX8_countOf 87 = .ok (.ireturn, 1) := by decide +kernel
theorem dX8_countOf_88 : decode cX8_countOf 88 = .ok (.aload_n 0, 1) := by decide +kernel
theorem dX8_countOf_89 : decode cX8_countOf 89 = .ok (.iload_n 1, 1) := by decide +kernel
theorem dX8_countOf_90 : decode cX8_countOf 90 = .ok (.invokevirtual 310, 3) := by decide +kernel
theorem dX8_countOf_93 : decode cX8_countOf 93 = .ok (.ireturn, 1) := by decide +kernel
theorem dX8_countOf_94 : decode cX8_countOf 94 = .ok (.aload_n 0, 1) := by decide +kernel
theorem dX8_countOf_95 : decode cX8_countOf 95 = .ok (.iload_n 1, 1) := by decide +kernel
theorem dX8_countOf_96 : decode cX8_countOf 96 = .ok (.invokevirtual 313, 3) := by decide +kernel
theorem dX8_countOf_99 : decode cX8_countOf 99 = .ok (.ireturn, 1) := by decide +kernel
theorem dX8_count_0 : decode cX8_count 0 = .ok (.iload_n 1, 1) := by decide +kernel
theorem dX8_count_1 : decode cX8_count 1 = .ok (.i2l, 1) := by decide +kernel
theorem dX8_count_2 : decode cX8_count 2 = .ok (.lconst 0, 1) := by decide +kernel
theorem dX8_count_3 : decode cX8_count 3 = .ok (.ldc2_w 316, 3) := by decide +kernel
theorem dX8_count_6 : decode cX8_count 6 = .ok (.invokestatic 74, 3) := by decide +kernel
theorem dX8_count_9 : decode cX8_count 9 = .ok (.ifCond .eq 11, 3) := by decide +kernel
theorem dX8_count_12 : decode cX8_count 12 = .ok (.aload_n 0, 1) := by decide +kernel
theorem dX8_count_13 : decode cX8_count 13 = .ok (.iload_n 1, 1) := by decide +kernel
theorem dX8_count_14 : decode cX8_count 14 = .ok (.invokevirtual 318, 3) := by decide +kernel
theorem dX8_count_17 : decode cX8_count 17 = .ok (.goto 4, 3) := by decide +kernel
theorem dX8_count_20 : decode cX8_count 20 = .ok (.iconst (-1), 1) := by decide +kernel
theorem dX8_count_21 : decode cX8_count 21 = .ok (.ireturn, 1) := by decide +kernel
theorem dX8_finding_0 : decode cX8_finding 0 = .ok (.aload_n 0, 1) := by decide +kernel
theorem dX8_finding_1 : decode cX8_finding 1 = .ok (.getfield 65, 3) := by decide +kernel
theorem dX8_finding_4 : decode cX8_finding 4 = .ok (.ireturn, 1) := by decide +kernel
theorem dX8_findings_0 : decode cX8_findings 0 = .ok (.iload_n 1, 1) := by decide +kernel
theorem dX8_findings_1 : decode cX8_findings 1 = .ok (.i2l, 1) := by decide +kernel
theorem dX8_findings_2 : decode cX8_findings 2 = .ok (.lconst 1, 1) := by decide +kernel
theorem dX8_findings_3 : decode cX8_findings 3 = .ok (.ldc2_w 72, 3) := by decide +kernel
theorem dX8_findings_6 : decode cX8_findings 6 = .ok (.invokestatic 74, 3) := by decide +kernel
theorem dX8_findings_9 : decode cX8_findings 9 = .ok (.ifCond .eq 12, 3) := by decide +kernel
theorem dX8_findings_12 : decode cX8_findings 12 = .ok (.aload_n 0, 1) := by decide +kernel
theorem dX8_findings_13 : decode cX8_findings 13 = .ok (.getfield 41, 3) := by decide +kernel
theorem dX8_findings_16 : decode cX8_findings 16 = .ok (.iload_n 1, 1) := by decide +kernel
theorem dX8_findings_17 : decode cX8_findings 17 = .ok (.iaload, 1) := by decide +kernel
theorem dX8_findings_18 : decode cX8_findings 18 = .ok (.goto 4, 3) := by decide +kernel
theorem dX8_findings_21 : decode cX8_findings 21 = .ok (.iconst (-1), 1) := by decide +kernel
theorem dX8_findings_22 : decode cX8_findings 22 = .ok (.ireturn, 1) := by decide +kernel
theorem dX8_digest_0 : decode cX8_digest 0 = .ok (.ldc2_w 321, 3) := by decide +kernel
theorem dX8_digest_3 : decode cX8_digest 3 = .ok (.lstore_n 1, 1) := by decide +kernel
theorem dX8_digest_4 : decode cX8_digest 4 = .ok (.iconst 0, 1) := by decide +kernel
theorem dX8_digest_5 : decode cX8_digest 5 = .ok (.istore_n 3, 1) := by decide +kernel
theorem dX8_digest_6 : decode cX8_digest 6 = .ok (.iload_n 3, 1) := by decide +kernel
theorem dX8_digest_7 : decode cX8_digest 7 = .ok (.bipush 11, 2) := by decide +kernel
theorem dX8_digest_9 : decode cX8_digest 9 = .ok (.if_icmp .ge 22, 3) := by decide +kernel
theorem dX8_digest_12 : decode cX8_digest 12 = .ok (.ldc2_w 323, 3) := by decide +kernel
theorem dX8_digest_15 : decode cX8_digest 15 = .ok (.lload_n 1, 1) := by decide +kernel
theorem dX8_digest_16 : decode cX8_digest 16 = .ok (.lmul, 1) := by decide +kernel
theorem dX8_digest_17 : decode cX8_digest 17 = .ok (.aload_n 0, 1) := by decide +kernel
theorem dX8_digest_18 : decode cX8_digest 18 = .ok (.iload_n 3, 1) := by decide +kernel
theorem dX8_digest_19 : decode cX8_digest 19 = .ok (.invokevirtual 318, 3) := by decide +kernel
theorem dX8_digest_22 : decode cX8_digest 22 = .ok (.i2l, 1) := by decide +kernel
theorem dX8_digest_23 : decode cX8_digest 23 = .ok (.ladd, 1) := by decide +kernel
theorem dX8_digest_24 : decode cX8_digest 24 = .ok (.lstore_n 1, 1) := by decide +kernel
theorem dX8_digest_25 : decode cX8_digest 25 = .ok (.iinc 3 1, 3) := by decide +kernel
theorem dX8_digest_28 : decode cX8_digest 28 = .ok (.goto (-22), 3) := by decide +kernel
theorem dX8_digest_31 : decode cX8_digest 31 = .ok (.iconst 0, 1) := by decide +kernel
theorem dX8_digest_32 : decode cX8_digest 32 = .ok (.istore_n 3, 1) := by decide +kernel
theorem dX8_digest_33 : decode cX8_digest 33 = .ok (.iload_n 3, 1) := by decide +kernel
theorem dX8_digest_34 : decode cX8_digest 34 = .ok (.bipush 9, 2) := by decide +kernel
theorem dX8_digest_36 : decode cX8_digest 36 = .ok (.aload_n 0, 1) := by decide +kernel
theorem dX8_digest_37 : decode cX8_digest 37 = .ok (.getfield 157, 3) := by decide +kernel
theorem dX8_digest_40 : decode cX8_digest 40 = .ok (.imul, 1) := by decide +kernel
theorem dX8_digest_41 : decode cX8_digest 41 = .ok (.if_icmp .ge 29, 3) := by decide +kernel
theorem dX8_digest_44 : decode cX8_digest 44 = .ok (.ldc2_w 323, 3) := by decide +kernel
theorem dX8_digest_47 : decode cX8_digest 47 = .ok (.lload_n 1, 1) := by decide +kernel
theorem dX8_digest_48 : decode cX8_digest 48 = .ok (.lmul, 1) := by decide +kernel
theorem dX8_digest_49 : decode cX8_digest 49 = .ok (.aload_n 0, 1) := by decide +kernel
theorem dX8_digest_50 : decode cX8_digest 50 = .ok (.iload_n 3, 1) := by decide +kernel
theorem dX8_digest_51 : decode cX8_digest 51 = .ok (.bipush 9, 2) := by decide +kernel
theorem dX8_digest_53 : decode cX8_digest 53 = .ok (.idiv, 1) := by decide +kernel
theorem dX8_digest_54 : decode cX8_digest 54 = .ok (.iload_n 3, 1) := by decide +kernel
theorem dX8_digest_55 : decode cX8_digest 55 = .ok (.bipush 9, 2) := by decide +kernel
theorem dX8_digest_57 : decode cX8_digest 57 = .ok (.irem, 1) := by decide +kernel
theorem dX8_digest_58 : decode cX8_digest 58 = .ok (.invokevirtual 196, 3) := by decide +kernel
theorem dX8_digest_61 : decode cX8_digest 61 = .ok (.i2l, 1) := by decide +kernel
theorem dX8_digest_62 : decode cX8_digest 62 = .ok (.ladd, 1) := by decide +kernel
theorem dX8_digest_63 : decode cX8_digest 63 = .ok (.lstore_n 1, 1) := by decide +kernel
theorem dX8_digest_64 : decode cX8_digest 64 = .ok (.iinc 3 1, 3) := by decide +kernel
theorem dX8_digest_67 : decode cX8_digest 67 = .ok (.goto (-34), 3) := by decide +kernel
theorem dX8_digest_70 : decode cX8_digest 70 = .ok (.iconst 1, 1) := by decide +kernel
theorem dX8_digest_71 : decode cX8_digest 71 = .ok (.istore_n 3, 1) := by decide +kernel
theorem dX8_digest_72 : decode cX8_digest 72 = .ok (.iload_n 3, 1) := by decide +kernel
theorem dX8_digest_73 : decode cX8_digest 73 = .ok (.iconst 4, 1) := by decide +kernel
theorem dX8_digest_74 : decode cX8_digest 74 = .ok (.if_icmp .ge 29, 3) := by decide +kernel
theorem dX8_digest_77 : decode cX8_digest 77 = .ok (.ldc2_w 323, 3) := by decide +kernel
theorem dX8_digest_80 : decode cX8_digest 80 = .ok (.lload_n 1, 1) := by decide +kernel
theorem dX8_digest_81 : decode cX8_digest 81 = .ok (.lmul, 1) := by decide +kernel
theorem dX8_digest_82 : decode cX8_digest 82 = .ok (.aload_n 0, 1) := by decide +kernel
theorem dX8_digest_83 : decode cX8_digest 83 = .ok (.getfield 7, 3) := by decide +kernel
theorem dX8_digest_86 : decode cX8_digest 86 = .ok (.sipush 657, 3) := by decide +kernel
theorem dX8_digest_89 : decode cX8_digest 89 = .ok (.iload_n 3, 1) := by decide +kernel
theorem dX8_digest_90 : decode cX8_digest 90 = .ok (.imul, 1) := by decide +kernel
theorem dX8_digest_91 : decode cX8_digest 91 = .ok (.iconst 0, 1) := by decide +kernel
theorem dX8_digest_92 : decode cX8_digest 92 = .ok (.iadd, 1) := by decide +kernel
theorem dX8_digest_93 : decode cX8_digest 93 = .ok (.iaload, 1) := by decide +kernel
theorem dX8_digest_94 : decode cX8_digest 94 = .ok (.i2l, 1) := by decide +kernel
theorem dX8_digest_95 : decode cX8_digest 95 = .ok (.ladd, 1) := by decide +kernel
theorem dX8_digest_96 : decode cX8_digest 96 = .ok (.lstore_n 1, 1) := by decide +kernel
theorem dX8_digest_97 : decode cX8_digest 97 = .ok (.iinc 3 1, 3) := by decide +kernel
theorem dX8_digest_100 : decode cX8_digest 100 = .ok (.goto (-28), 3) := by decide +kernel
theorem dX8_digest_103 : decode cX8_digest 103 = .ok (.iconst 0, 1) := by decide +kernel
theorem dX8_digest_104 : decode cX8_digest 104 = .ok (.istore_n 3, 1) := by decide +kernel
theorem dX8_digest_105 : decode cX8_digest 105 = .ok (.iload_n 3, 1) := by decide +kernel
theorem dX8_digest_106 : decode cX8_digest 106 = .ok (.bipush 6, 2) := by decide +kernel
theorem dX8_digest_108 : decode cX8_digest 108 = .ok (.if_icmp .ge 63, 3) := by decide +kernel
theorem dX8_digest_111 : decode cX8_digest 111 = .ok (.ldc2_w 323, 3) := by decide +kernel
theorem dX8_digest_114 : decode cX8_digest 114 = .ok (.lload_n 1, 1) := by decide +kernel
theorem dX8_digest_115 : decode cX8_digest 115 = .ok (.lmul, 1) := by decide +kernel
theorem dX8_digest_116 : decode cX8_digest 116 = .ok (.aload_n 0, 1) := by decide +kernel
theorem dX8_digest_117 : decode cX8_digest 117 = .ok (.getfield 25, 3) := by decide +kernel
theorem dX8_digest_120 : decode cX8_digest 120 = .ok (.iload_n 3, 1) := by decide +kernel
theorem dX8_digest_121 : decode cX8_digest 121 = .ok (.iaload, 1) := by decide +kernel
theorem dX8_digest_122 : decode cX8_digest 122 = .ok (.i2l, 1) := by decide +kernel
theorem dX8_digest_123 : decode cX8_digest 123 = .ok (.ladd, 1) := by decide +kernel
theorem dX8_digest_124 : decode cX8_digest 124 = .ok (.lstore_n 1, 1) := by decide +kernel
theorem dX8_digest_125 : decode cX8_digest 125 = .ok (.iconst 0, 1) := by decide +kernel
theorem dX8_digest_126 : decode cX8_digest 126 = .ok (.istore 4, 2) := by decide +kernel
theorem dX8_digest_128 : decode cX8_digest 128 = .ok (.iload 4, 2) := by decide +kernel
theorem dX8_digest_130 : decode cX8_digest 130 = .ok (.aload_n 0, 1) := by decide +kernel
theorem dX8_digest_131 : decode cX8_digest 131 = .ok (.getfield 25, 3) := by decide +kernel
theorem dX8_digest_134 : decode cX8_digest 134 = .ok (.iload_n 3, 1) := by decide +kernel
theorem dX8_digest_135 : decode cX8_digest 135 = .ok (.iaload, 1) := by decide +kernel
theorem dX8_digest_136 : decode cX8_digest 136 = .ok (.if_icmp .ge 29, 3) := by decide +kernel
theorem dX8_digest_139 : decode cX8_digest 139 = .ok (.ldc2_w 323, 3) := by decide +kernel
theorem dX8_digest_142 : decode cX8_digest 142 = .ok (.lload_n 1, 1) := by decide +kernel
theorem dX8_digest_143 : decode cX8_digest 143 = .ok (.lmul, 1) := by decide +kernel
theorem dX8_digest_144 : decode cX8_digest 144 = .ok (.aload_n 0, 1) := by decide +kernel
theorem dX8_digest_145 : decode cX8_digest 145 = .ok (.getfield 28, 3) := by decide +kernel
theorem dX8_digest_148 : decode cX8_digest 148 = .ok (.bipush 40, 2) := by decide +kernel
theorem dX8_digest_150 : decode cX8_digest 150 = .ok (.iload_n 3, 1) := by decide +kernel
theorem dX8_digest_151 : decode cX8_digest 151 = .ok (.imul, 1) := by decide +kernel
theorem dX8_digest_152 : decode cX8_digest 152 = .ok (.iload 4, 2) := by decide +kernel
theorem dX8_digest_154 : decode cX8_digest 154 = .ok (.iadd, 1) := by decide +kernel
theorem dX8_digest_155 : decode cX8_digest 155 = .ok (.iaload, 1) := by decide +kernel
theorem dX8_digest_156 : decode cX8_digest 156 = .ok (.i2l, 1) := by decide +kernel
theorem dX8_digest_157 : decode cX8_digest 157 = .ok (.ladd, 1) := by decide +kernel
theorem dX8_digest_158 : decode cX8_digest 158 = .ok (.lstore_n 1, 1) := by decide +kernel
theorem dX8_digest_159 : decode cX8_digest 159 = .ok (.iinc 4 1, 3) := by decide +kernel
theorem dX8_digest_162 : decode cX8_digest 162 = .ok (.goto (-34), 3) := by decide +kernel
theorem dX8_digest_165 : decode cX8_digest 165 = .ok (.iinc 3 1, 3) := by decide +kernel
theorem dX8_digest_168 : decode cX8_digest 168 = .ok (.goto (-63), 3) := by decide +kernel
theorem dX8_digest_171 : decode cX8_digest 171 = .ok (.iconst 0, 1) := by decide +kernel
theorem dX8_digest_172 : decode cX8_digest 172 = .ok (.istore_n 3, 1) := by decide +kernel
theorem dX8_digest_173 : decode cX8_digest 173 = .ok (.iload_n 3, 1) := by decide +kernel
theorem dX8_digest_174 : decode cX8_digest 174 = .ok (.iconst 4, 1) := by decide +kernel
theorem dX8_digest_175 : decode cX8_digest 175 = .ok (.if_icmp .ge 63, 3) := by decide +kernel
theorem dX8_digest_178 : decode cX8_digest 178 = .ok (.ldc2_w 323, 3) := by decide +kernel
theorem dX8_digest_181 : decode cX8_digest 181 = .ok (.lload_n 1, 1) := by decide +kernel
theorem dX8_digest_182 : decode cX8_digest 182 = .ok (.lmul, 1) := by decide +kernel
theorem dX8_digest_183 : decode cX8_digest 183 = .ok (.aload_n 0, 1) := by decide +kernel
theorem dX8_digest_184 : decode cX8_digest 184 = .ok (.getfield 31, 3) := by decide +kernel
theorem dX8_digest_187 : decode cX8_digest 187 = .ok (.iload_n 3, 1) := by decide +kernel
theorem dX8_digest_188 : decode cX8_digest 188 = .ok (.iaload, 1) := by decide +kernel
theorem dX8_digest_189 : decode cX8_digest 189 = .ok (.i2l, 1) := by decide +kernel
theorem dX8_digest_190 : decode cX8_digest 190 = .ok (.ladd, 1) := by decide +kernel
theorem dX8_digest_191 : decode cX8_digest 191 = .ok (.lstore_n 1, 1) := by decide +kernel
theorem dX8_digest_192 : decode cX8_digest 192 = .ok (.iconst 0, 1) := by decide +kernel
theorem dX8_digest_193 : decode cX8_digest 193 = .ok (.istore 4, 2) := by decide +kernel
theorem dX8_digest_195 : decode cX8_digest 195 = .ok (.iload 4, 2) := by decide +kernel
theorem dX8_digest_197 : decode cX8_digest 197 = .ok (.aload_n 0, 1) := by decide +kernel
theorem dX8_digest_198 : decode cX8_digest 198 = .ok (.getfield 31, 3) := by decide +kernel
theorem dX8_digest_201 : decode cX8_digest 201 = .ok (.iload_n 3, 1) := by decide +kernel
theorem dX8_digest_202 : decode cX8_digest 202 = .ok (.iaload, 1) := by decide +kernel
theorem dX8_digest_203 : decode cX8_digest 203 = .ok (.if_icmp .ge 29, 3) := by decide +kernel
theorem dX8_digest_206 : decode cX8_digest 206 = .ok (.ldc2_w 323, 3) := by decide +kernel
theorem dX8_digest_209 : decode cX8_digest 209 = .ok (.lload_n 1, 1) := by decide +kernel
theorem dX8_digest_210 : decode cX8_digest 210 = .ok (.lmul, 1) := by decide +kernel
theorem dX8_digest_211 : decode cX8_digest 211 = .ok (.aload_n 0, 1) := by decide +kernel
theorem dX8_digest_212 : decode cX8_digest 212 = .ok (.getfield 34, 3) := by decide +kernel
theorem dX8_digest_215 : decode cX8_digest 215 = .ok (.bipush 60, 2) := by decide +kernel
theorem dX8_digest_217 : decode cX8_digest 217 = .ok (.iload_n 3, 1) := by decide +kernel
theorem dX8_digest_218 : decode cX8_digest 218 = .ok (.imul, 1) := by decide +kernel
theorem dX8_digest_219 : decode cX8_digest 219 = .ok (.iload 4, 2) := by decide +kernel
theorem dX8_digest_221 : decode cX8_digest 221 = .ok (.iadd, 1) := by decide +kernel
theorem dX8_digest_222 : decode cX8_digest 222 = .ok (.iaload, 1) := by decide +kernel
theorem dX8_digest_223 : decode cX8_digest 223 = .ok (.i2l, 1) := by decide +kernel
theorem dX8_digest_224 : decode cX8_digest 224 = .ok (.ladd, 1) := by decide +kernel
theorem dX8_digest_225 : decode cX8_digest 225 = .ok (.lstore_n 1, 1) := by decide +kernel
theorem dX8_digest_226 : decode cX8_digest 226 = .ok (.iinc 4 1, 3) := by decide +kernel
theorem dX8_digest_229 : decode cX8_digest 229 = .ok (.goto (-34), 3) := by decide +kernel
theorem dX8_digest_232 : decode cX8_digest 232 = .ok (.iinc 3 1, 3) := by decide +kernel
theorem dX8_digest_235 : decode cX8_digest 235 = .ok (.goto (-62), 3) := by decide +kernel
theorem dX8_digest_238 : decode cX8_digest 238 = .ok (.lload_n 1, 1) := by decide +kernel
theorem dX8_digest_239 : decode cX8_digest 239 = .ok (.lreturn, 1) := by decide +kernel
theorem dJ6_bitCount_0f7a4_0 : decode cJ6_bitCount_0f7a4 0 = .ok (.iload_n 0, 1) := by decide +kernel
theorem dJ6_bitCount_0f7a4_1 : decode cJ6_bitCount_0f7a4 1 = .ok (.iload_n 0, 1) := by decide +kernel
theorem dJ6_bitCount_0f7a4_2 : decode cJ6_bitCount_0f7a4 2 = .ok (.iconst 1, 1) := by decide +kernel
theorem dJ6_bitCount_0f7a4_3 : decode cJ6_bitCount_0f7a4 3 = .ok (.iushr, 1) := by decide +kernel
theorem dJ6_bitCount_0f7a4_4 : decode cJ6_bitCount_0f7a4 4 = .ok (.ldc_w 265, 3) := by decide +kernel
theorem dJ6_bitCount_0f7a4_7 : decode cJ6_bitCount_0f7a4 7 = .ok (.iand, 1) := by decide +kernel
theorem dJ6_bitCount_0f7a4_8 : decode cJ6_bitCount_0f7a4 8 = .ok (.isub, 1) := by decide +kernel
theorem dJ6_bitCount_0f7a4_9 : decode cJ6_bitCount_0f7a4 9 = .ok (.istore_n 0, 1) := by decide +kernel
theorem dJ6_bitCount_0f7a4_10 : decode cJ6_bitCount_0f7a4 10 = .ok (.iload_n 0, 1) := by decide +kernel
theorem dJ6_bitCount_0f7a4_11 : decode cJ6_bitCount_0f7a4 11 = .ok (.ldc_w 266, 3) := by decide +kernel
theorem dJ6_bitCount_0f7a4_14 : decode cJ6_bitCount_0f7a4 14 = .ok (.iand, 1) := by decide +kernel
theorem dJ6_bitCount_0f7a4_15 : decode cJ6_bitCount_0f7a4 15 = .ok (.iload_n 0, 1) := by decide +kernel
theorem dJ6_bitCount_0f7a4_16 : decode cJ6_bitCount_0f7a4 16 = .ok (.iconst 2, 1) := by decide +kernel
theorem dJ6_bitCount_0f7a4_17 : decode cJ6_bitCount_0f7a4 17 = .ok (.iushr, 1) := by decide +kernel
theorem dJ6_bitCount_0f7a4_18 : decode cJ6_bitCount_0f7a4 18 = .ok (.ldc_w 266, 3) := by decide +kernel
theorem dJ6_bitCount_0f7a4_21 : decode cJ6_bitCount_0f7a4 21 = .ok (.iand, 1) := by decide +kernel
theorem dJ6_bitCount_0f7a4_22 : decode cJ6_bitCount_0f7a4 22 = .ok (.iadd, 1) := by decide +kernel
theorem dJ6_bitCount_0f7a4_23 : decode cJ6_bitCount_0f7a4 23 = .ok (.istore_n 0, 1) := by decide +kernel
theorem dJ6_bitCount_0f7a4_24 : decode cJ6_bitCount_0f7a4 24 = .ok (.iload_n 0, 1) := by decide +kernel
theorem dJ6_bitCount_0f7a4_25 : decode cJ6_bitCount_0f7a4 25 = .ok (.iload_n 0, 1) := by decide +kernel
theorem dJ6_bitCount_0f7a4_26 : decode cJ6_bitCount_0f7a4 26 = .ok (.iconst 4, 1) := by decide +kernel
theorem dJ6_bitCount_0f7a4_27 : decode cJ6_bitCount_0f7a4 27 = .ok (.iushr, 1) := by decide +kernel
theorem dJ6_bitCount_0f7a4_28 : decode cJ6_bitCount_0f7a4 28 = .ok (.iadd, 1) := by decide +kernel
theorem dJ6_bitCount_0f7a4_29 : decode cJ6_bitCount_0f7a4 29 = .ok (.ldc_w 267, 3) := by decide +kernel
theorem dJ6_bitCount_0f7a4_32 : decode cJ6_bitCount_0f7a4 32 = .ok (.iand, 1) := by decide +kernel
theorem dJ6_bitCount_0f7a4_33 : decode cJ6_bitCount_0f7a4 33 = .ok (.istore_n 0, 1) := by decide +kernel
theorem dJ6_bitCount_0f7a4_34 : decode cJ6_bitCount_0f7a4 34 = .ok (.iload_n 0, 1) := by decide +kernel
theorem dJ6_bitCount_0f7a4_35 : decode cJ6_bitCount_0f7a4 35 = .ok (.iload_n 0, 1) := by decide +kernel
theorem dJ6_bitCount_0f7a4_36 : decode cJ6_bitCount_0f7a4 36 = .ok (.bipush 8, 2) := by decide +kernel
theorem dJ6_bitCount_0f7a4_38 : decode cJ6_bitCount_0f7a4 38 = .ok (.iushr, 1) := by decide +kernel
theorem dJ6_bitCount_0f7a4_39 : decode cJ6_bitCount_0f7a4 39 = .ok (.iadd, 1) := by decide +kernel
theorem dJ6_bitCount_0f7a4_40 : decode cJ6_bitCount_0f7a4 40 = .ok (.istore_n 0, 1) := by decide +kernel
theorem dJ6_bitCount_0f7a4_41 : decode cJ6_bitCount_0f7a4 41 = .ok (.iload_n 0, 1) := by decide +kernel
theorem dJ6_bitCount_0f7a4_42 : decode cJ6_bitCount_0f7a4 42 = .ok (.iload_n 0, 1) := by decide +kernel
theorem dJ6_bitCount_0f7a4_43 : decode cJ6_bitCount_0f7a4 43 = .ok (.bipush 16, 2) := by decide +kernel
theorem dJ6_bitCount_0f7a4_45 : decode cJ6_bitCount_0f7a4 45 = .ok (.iushr, 1) := by decide +kernel
theorem dJ6_bitCount_0f7a4_46 : decode cJ6_bitCount_0f7a4 46 = .ok (.iadd, 1) := by decide +kernel
theorem dJ6_bitCount_0f7a4_47 : decode cJ6_bitCount_0f7a4 47 = .ok (.istore_n 0, 1) := by decide +kernel
theorem dJ6_bitCount_0f7a4_48 : decode cJ6_bitCount_0f7a4 48 = .ok (.iload_n 0, 1) := by decide +kernel
theorem dJ6_bitCount_0f7a4_49 : decode cJ6_bitCount_0f7a4 49 = .ok (.bipush 63, 2) := by decide +kernel
theorem dJ6_bitCount_0f7a4_51 : decode cJ6_bitCount_0f7a4 51 = .ok (.iand, 1) := by decide +kernel
theorem dJ6_bitCount_0f7a4_52 : decode cJ6_bitCount_0f7a4 52 = .ok (.ireturn, 1) := by decide +kernel
theorem dL_law_0 : decode cL_law 0 = .ok (.new 7, 3) := by decide +kernel
theorem dL_law_3 : decode cL_law 3 = .ok (.dup, 1) := by decide +kernel
theorem dL_law_4 : decode cL_law 4 = .ok (.invokespecial 9, 3) := by decide +kernel
theorem dL_law_7 : decode cL_law 7 = .ok (.astore_n 1, 1) := by decide +kernel
theorem dL_law_8 : decode cL_law 8 = .ok (.new 10, 3) := by decide +kernel
theorem dL_law_11 : decode cL_law 11 = .ok (.dup, 1) := by decide +kernel
theorem dL_law_12 : decode cL_law 12 = .ok (.invokespecial 12, 3) := by decide +kernel
theorem dL_law_15 : decode cL_law 15 = .ok (.astore_n 2, 1) := by decide +kernel
theorem dL_law_16 : decode cL_law 16 = .ok (.iconst 0, 1) := by decide +kernel
theorem dL_law_17 : decode cL_law 17 = .ok (.istore_n 3, 1) := by decide +kernel
theorem dL_law_18 : decode cL_law 18 = .ok (.iload_n 3, 1) := by decide +kernel
theorem dL_law_19 : decode cL_law 19 = .ok (.aload_n 0, 1) := by decide +kernel
theorem dL_law_20 : decode cL_law 20 = .ok (.arraylength, 1) := by decide +kernel
theorem dL_law_21 : decode cL_law 21 = .ok (.bipush 6, 2) := by decide +kernel
theorem dL_law_23 : decode cL_law 23 = .ok (.isub, 1) := by decide +kernel
theorem dL_law_24 : decode cL_law 24 = .ok (.if_icmp .gt 1230, 3) := by decide +kernel
theorem dL_law_27 : decode cL_law 27 = .ok (.aload_n 0, 1) := by decide +kernel
theorem dL_law_28 : decode cL_law 28 = .ok (.iload_n 3, 1) := by decide +kernel
theorem dL_law_29 : decode cL_law 29 = .ok (.iaload, 1) := by decide +kernel
theorem dL_law_30 : decode cL_law 30 = .ok (.bipush 63, 2) := by decide +kernel
theorem dL_law_32 : decode cL_law 32 = .ok (.iand, 1) := by decide +kernel
theorem dL_law_33 : decode cL_law 33 = .ok (.tableswitch 1215 0 40 #[179, 212, 255, 288, 311, 374, 397, 430, 473, 496, 519, 552, 585, 608, 631, 654, 677, 700, 723, 736, 759, 772, 805, 828, 851, 874, 887, 910, 933, 966, 999, 1022, 1045, 1068, 1101, 1114, 1128, 1142, 1165, 1178, 1201], 179) := by decide +kernel
theorem dL_law_212 : decode cL_law 212 = .ok (.aload_n 1, 1) := by decide +kernel
theorem dL_law_213 : decode cL_law 213 = .ok (.aload_n 0, 1) := by decide +kernel
theorem dL_law_214 : decode cL_law 214 = .ok (.iload_n 3, 1) := by decide +kernel
theorem dL_law_215 : decode cL_law 215 = .ok (.iconst 1, 1) := by decide +kernel
theorem dL_law_216 : decode cL_law 216 = .ok (.iadd, 1) := by decide +kernel
theorem dL_law_217 : decode cL_law 217 = .ok (.iaload, 1) := by decide +kernel
theorem dL_law_218 : decode cL_law 218 = .ok (.aload_n 0, 1) := by decide +kernel
theorem dL_law_219 : decode cL_law 219 = .ok (.iload_n 3, 1) := by decide +kernel
theorem dL_law_220 : decode cL_law 220 = .ok (.iconst 2, 1) := by decide +kernel
theorem dL_law_221 : decode cL_law 221 = .ok (.iadd, 1) := by decide +kernel
theorem dL_law_222 : decode cL_law 222 = .ok (.iaload, 1) := by decide +kernel
theorem dL_law_223 : decode cL_law 223 = .ok (.invokevirtual 13, 3) := by decide +kernel
theorem dL_law_226 : decode cL_law 226 = .ok (.aload_n 2, 1) := by decide +kernel
theorem dL_law_227 : decode cL_law 227 = .ok (.aload_n 0, 1) := by decide +kernel
theorem dL_law_228 : decode cL_law 228 = .ok (.iload_n 3, 1) := by decide +kernel
theorem dL_law_229 : decode cL_law 229 = .ok (.iconst 1, 1) := by decide +kernel
theorem dL_law_230 : decode cL_law 230 = .ok (.iadd, 1) := by decide +kernel
theorem dL_law_231 : decode cL_law 231 = .ok (.iaload, 1) := by decide +kernel
theorem dL_law_232 : decode cL_law 232 = .ok (.aload_n 0, 1) := by decide +kernel
theorem dL_law_233 : decode cL_law 233 = .ok (.iload_n 3, 1) := by decide +kernel
theorem dL_law_234 : decode cL_law 234 = .ok (.iconst 2, 1) := by decide +kernel
theorem dL_law_235 : decode cL_law 235 = .ok (.iadd, 1) := by decide +kernel
theorem dL_law_236 : decode cL_law 236 = .ok (.iaload, 1) := by decide +kernel
theorem dL_law_237 : decode cL_law 237 = .ok (.invokevirtual 17, 3) := by decide +kernel
theorem dL_law_240 : decode cL_law 240 = .ok (.if_icmp .eq 1008, 3) := by decide +kernel
theorem dL_law_243 : decode cL_law 243 = .ok (.iconst 0, 1) := by decide +kernel
theorem dL_law_244 : decode cL_law 244 = .ok (.ireturn, 1) := by decide +kernel
theorem dL_law_245 : decode cL_law 245 = .ok (.aload_n 1, 1) := by decide +kernel
theorem dL_law_246 : decode cL_law 246 = .ok (.aload_n 0, 1) := by decide +kernel
theorem dL_law_247 : decode cL_law 247 = .ok (.iload_n 3, 1) := by decide +kernel
theorem dL_law_248 : decode cL_law 248 = .ok (.iconst 1, 1) := by decide +kernel
theorem dL_law_249 : decode cL_law 249 = .ok (.iadd, 1) := by decide +kernel
theorem dL_law_250 : decode cL_law 250 = .ok (.iaload, 1) := by decide +kernel
theorem dL_law_251 : decode cL_law 251 = .ok (.aload_n 0, 1) := by decide +kernel
theorem dL_law_252 : decode cL_law 252 = .ok (.iload_n 3, 1) := by decide +kernel
theorem dL_law_253 : decode cL_law 253 = .ok (.iconst 2, 1) := by decide +kernel
theorem dL_law_254 : decode cL_law 254 = .ok (.iadd, 1) := by decide +kernel
theorem dL_law_255 : decode cL_law 255 = .ok (.iaload, 1) := by decide +kernel
theorem dL_law_256 : decode cL_law 256 = .ok (.aload_n 0, 1) := by decide +kernel
theorem dL_law_257 : decode cL_law 257 = .ok (.iload_n 3, 1) := by decide +kernel
theorem dL_law_258 : decode cL_law 258 = .ok (.iconst 3, 1) := by decide +kernel
theorem dL_law_259 : decode cL_law 259 = .ok (.iadd, 1) := by decide +kernel
theorem dL_law_260 : decode cL_law 260 = .ok (.iaload, 1) := by decide +kernel
theorem dL_law_261 : decode cL_law 261 = .ok (.invokevirtual 18, 3) := by decide +kernel
theorem dL_law_264 : decode cL_law 264 = .ok (.aload_n 2, 1) := by decide +kernel
theorem dL_law_265 : decode cL_law 265 = .ok (.aload_n 0, 1) := by decide +kernel
theorem dL_law_266 : decode cL_law 266 = .ok (.iload_n 3, 1) := by decide +kernel
theorem dL_law_267 : decode cL_law 267 = .ok (.iconst 1, 1) := by decide +kernel
theorem dL_law_268 : decode cL_law 268 = .ok (.iadd, 1) := by decide +kernel
theorem dL_law_269 : decode cL_law 269 = .ok (.iaload, 1) := by decide +kernel
theorem dL_law_270 : decode cL_law 270 = .ok (.aload_n 0, 1) := by decide +kernel
theorem dL_law_271 : decode cL_law 271 = .ok (.iload_n 3, 1) := by decide +kernel
theorem dL_law_272 : decode cL_law 272 = .ok (.iconst 2, 1) := by decide +kernel
theorem dL_law_273 : decode cL_law 273 = .ok (.iadd, 1) := by decide +kernel
theorem dL_law_274 : decode cL_law 274 = .ok (.iaload, 1) := by decide +kernel
theorem dL_law_275 : decode cL_law 275 = .ok (.aload_n 0, 1) := by decide +kernel
theorem dL_law_276 : decode cL_law 276 = .ok (.iload_n 3, 1) := by decide +kernel
theorem dL_law_277 : decode cL_law 277 = .ok (.iconst 3, 1) := by decide +kernel
theorem dL_law_278 : decode cL_law 278 = .ok (.iadd, 1) := by decide +kernel
theorem dL_law_279 : decode cL_law 279 = .ok (.iaload, 1) := by decide +kernel
theorem dL_law_280 : decode cL_law 280 = .ok (.invokevirtual 22, 3) := by decide +kernel
theorem dL_law_283 : decode cL_law 283 = .ok (.if_icmp .eq 965, 3) := by decide +kernel
theorem dL_law_286 : decode cL_law 286 = .ok (.iconst 0, 1) := by decide +kernel
theorem dL_law_287 : decode cL_law 287 = .ok (.ireturn, 1) := by decide +kernel
theorem dL_law_288 : decode cL_law 288 = .ok (.aload_n 1, 1) := by decide +kernel
theorem dL_law_289 : decode cL_law 289 = .ok (.aload_n 0, 1) := by decide +kernel
theorem dL_law_290 : decode cL_law 290 = .ok (.iload_n 3, 1) := by decide +kernel
theorem dL_law_291 : decode cL_law 291 = .ok (.iconst 1, 1) := by decide +kernel
theorem dL_law_292 : decode cL_law 292 = .ok (.iadd, 1) := by decide +kernel
theorem dL_law_293 : decode cL_law 293 = .ok (.iaload, 1) := by decide +kernel
theorem dL_law_294 : decode cL_law 294 = .ok (.aload_n 0, 1) := by decide +kernel
theorem dL_law_295 : decode cL_law 295 = .ok (.iload_n 3, 1) := by decide +kernel
theorem dL_law_296 : decode cL_law 296 = .ok (.iconst 2, 1) := by decide +kernel
theorem dL_law_297 : decode cL_law 297 = .ok (.iadd, 1) := by decide +kernel
theorem dL_law_298 : decode cL_law 298 = .ok (.iaload, 1) := by decide +kernel
theorem dL_law_299 : decode cL_law 299 = .ok (.invokevirtual 23, 3) := by decide +kernel
theorem dL_law_302 : decode cL_law 302 = .ok (.aload_n 2, 1) := by decide +kernel
theorem dL_law_303 : decode cL_law 303 = .ok (.aload_n 0, 1) := by decide +kernel
theorem dL_law_304 : decode cL_law 304 = .ok (.iload_n 3, 1) := by decide +kernel
theorem dL_law_305 : decode cL_law 305 = .ok (.iconst 1, 1) := by decide +kernel
theorem dL_law_306 : decode cL_law 306 = .ok (.iadd, 1) := by decide +kernel
theorem dL_law_307 : decode cL_law 307 = .ok (.iaload, 1) := by decide +kernel
theorem dL_law_308 : decode cL_law 308 = .ok (.aload_n 0, 1) := by decide +kernel
theorem dL_law_309 : decode cL_law 309 = .ok (.iload_n 3, 1) := by decide +kernel
theorem dL_law_310 : decode cL_law 310 = .ok (.iconst 2, 1) := by decide +kernel
theorem dL_law_311 : decode cL_law 311 = .ok (.iadd, 1) := by decide +kernel
theorem dL_law_312 : decode cL_law 312 = .ok (.iaload, 1) := by decide +kernel
theorem dL_law_313 : decode cL_law 313 = .ok (.invokevirtual 26, 3) := by decide +kernel
theorem dL_law_316 : decode cL_law 316 = .ok (.if_icmp .eq 932, 3) := by decide +kernel
theorem dL_law_319 : decode cL_law 319 = .ok (.iconst 0, 1) := by decide +kernel
theorem dL_law_320 : decode cL_law 320 = .ok (.ireturn, 1) := by decide +kernel
theorem dL_law_321 : decode cL_law 321 = .ok (.aload_n 1, 1) := by decide +kernel
theorem dL_law_322 : decode cL_law 322 = .ok (.aload_n 0, 1) := by decide +kernel
theorem dL_law_323 : decode cL_law 323 = .ok (.iload_n 3, 1) := by decide +kernel
theorem dL_law_324 : decode cL_law 324 = .ok (.iconst 1, 1) := by decide +kernel
theorem dL_law_325 : decode cL_law 325 = .ok (.iadd, 1) := by decide +kernel
theorem dL_law_326 : decode cL_law 326 = .ok (.iaload, 1) := by decide +kernel
theorem dL_law_327 : decode cL_law 327 = .ok (.invokevirtual 27, 3) := by decide +kernel
theorem dL_law_330 : decode cL_law 330 = .ok (.aload_n 2, 1) := by decide +kernel
theorem dL_law_331 : decode cL_law 331 = .ok (.aload_n 0, 1) := by decide +kernel
theorem dL_law_332 : decode cL_law 332 = .ok (.iload_n 3, 1) := by decide +kernel
theorem dL_law_333 : decode cL_law 333 = .ok (.iconst 1, 1) := by decide +kernel
theorem dL_law_334 : decode cL_law 334 = .ok (.iadd, 1) := by decide +kernel
theorem dL_law_335 : decode cL_law 335 = .ok (.iaload, 1) := by decide +kernel
theorem dL_law_336 : decode cL_law 336 = .ok (.invokevirtual 31, 3) := by decide +kernel
theorem dL_law_339 : decode cL_law 339 = .ok (.if_icmp .eq 909, 3) := by decide +kernel
theorem dL_law_342 : decode cL_law 342 = .ok (.iconst 0, 1) := by decide +kernel
theorem dL_law_343 : decode cL_law 343 = .ok (.ireturn, 1) := by decide +kernel
theorem dL_law_344 : decode cL_law 344 = .ok (.aload_n 1, 1) := by decide +kernel
theorem dL_law_345 : decode cL_law 345 = .ok (.aload_n 0, 1) := by decide +kernel
theorem dL_law_346 : decode cL_law 346 = .ok (.iload_n 3, 1) := by decide +kernel
theorem dL_law_347 : decode cL_law 347 = .ok (.iconst 1, 1) := by decide +kernel
theorem dL_law_348 : decode cL_law 348 = .ok (.iadd, 1) := by decide +kernel
theorem dL_law_349 : decode cL_law 349 = .ok (.iaload, 1) := by decide +kernel
theorem dL_law_350 : decode cL_law 350 = .ok (.aload_n 0, 1) := by decide +kernel
theorem dL_law_351 : decode cL_law 351 = .ok (.iload_n 3, 1) := by decide +kernel
theorem dL_law_352 : decode cL_law 352 = .ok (.iconst 2, 1) := by decide +kernel
theorem dL_law_353 : decode cL_law 353 = .ok (.iadd, 1) := by decide +kernel
theorem dL_law_354 : decode cL_law 354 = .ok (.iaload, 1) := by decide +kernel
theorem dL_law_355 : decode cL_law 355 = .ok (.aload_n 0, 1) := by decide +kernel
theorem dL_law_356 : decode cL_law 356 = .ok (.iload_n 3, 1) := by decide +kernel
theorem dL_law_357 : decode cL_law 357 = .ok (.iconst 3, 1) := by decide +kernel
theorem dL_law_358 : decode cL_law 358 = .ok (.iadd, 1) := by decide +kernel
theorem dL_law_359 : decode cL_law 359 = .ok (.iaload, 1) := by decide +kernel
theorem dL_law_360 : decode cL_law 360 = .ok (.aload_n 0, 1) := by decide +kernel
theorem dL_law_361 : decode cL_law 361 = .ok (.iload_n 3, 1) := by decide +kernel
theorem dL_law_362 : decode cL_law 362 = .ok (.iconst 4, 1) := by decide +kernel
theorem dL_law_363 : decode cL_law 363 = .ok (.iadd, 1) := by decide +kernel
theorem dL_law_364 : decode cL_law 364 = .ok (.iaload, 1) := by decide +kernel
theorem dL_law_365 : decode cL_law 365 = .ok (.aload_n 0, 1) := by decide +kernel
theorem dL_law_366 : decode cL_law 366 = .ok (.iload_n 3, 1) := by decide +kernel
theorem dL_law_367 : decode cL_law 367 = .ok (.iconst 5, 1) := by decide +kernel
theorem dL_law_368 : decode cL_law 368 = .ok (.iadd, 1) := by decide +kernel
theorem dL_law_369 : decode cL_law 369 = .ok (.iaload, 1) := by decide +kernel
theorem dL_law_370 : decode cL_law 370 = .ok (.invokevirtual 32, 3) := by decide +kernel
theorem dL_law_373 : decode cL_law 373 = .ok (.aload_n 2, 1) := by decide +kernel
theorem dL_law_374 : decode cL_law 374 = .ok (.aload_n 0, 1) := by decide +kernel
theorem dL_law_375 : decode cL_law 375 = .ok (.iload_n 3, 1) := by decide +kernel
theorem dL_law_376 : decode cL_law 376 = .ok (.iconst 1, 1) := by decide +kernel
theorem dL_law_377 : decode cL_law 377 = .ok (.iadd, 1) := by decide +kernel
theorem dL_law_378 : decode cL_law 378 = .ok (.iaload, 1) := by decide +kernel
theorem dL_law_379 : decode cL_law 379 = .ok (.aload_n 0, 1) := by decide +kernel
theorem dL_law_380 : decode cL_law 380 = .ok (.iload_n 3, 1) := by decide +kernel
theorem dL_law_381 : decode cL_law 381 = .ok (.iconst 2, 1) := by decide +kernel
theorem dL_law_382 : decode cL_law 382 = .ok (.iadd, 1) := by decide +kernel
theorem dL_law_383 : decode cL_law 383 = .ok (.iaload, 1) := by decide +kernel
theorem dL_law_384 : decode cL_law 384 = .ok (.aload_n 0, 1) := by decide +kernel
theorem dL_law_385 : decode cL_law 385 = .ok (.iload_n 3, 1) := by decide +kernel
theorem dL_law_386 : decode cL_law 386 = .ok (.iconst 3, 1) := by decide +kernel
theorem dL_law_387 : decode cL_law 387 = .ok (.iadd, 1) := by decide +kernel
theorem dL_law_388 : decode cL_law 388 = .ok (.iaload, 1) := by decide +kernel
theorem dL_law_389 : decode cL_law 389 = .ok (.aload_n 0, 1) := by decide +kernel
theorem dL_law_390 : decode cL_law 390 = .ok (.iload_n 3, 1) := by decide +kernel
theorem dL_law_391 : decode cL_law 391 = .ok (.iconst 4, 1) := by decide +kernel
theorem dL_law_392 : decode cL_law 392 = .ok (.iadd, 1) := by decide +kernel
theorem dL_law_393 : decode cL_law 393 = .ok (.iaload, 1) := by decide +kernel
theorem dL_law_394 : decode cL_law 394 = .ok (.aload_n 0, 1) := by decide +kernel
theorem dL_law_395 : decode cL_law 395 = .ok (.iload_n 3, 1) := by decide +kernel
theorem dL_law_396 : decode cL_law 396 = .ok (.iconst 5, 1) := by decide +kernel
theorem dL_law_397 : decode cL_law 397 = .ok (.iadd, 1) := by decide +kernel
theorem dL_law_398 : decode cL_law 398 = .ok (.iaload, 1) := by decide +kernel
theorem dL_law_399 : decode cL_law 399 = .ok (.invokevirtual 36, 3) := by decide +kernel
theorem dL_law_402 : decode cL_law 402 = .ok (.if_icmp .eq 846, 3) := by decide +kernel
theorem dL_law_405 : decode cL_law 405 = .ok (.iconst 0, 1) := by decide +kernel
theorem dL_law_406 : decode cL_law 406 = .ok (.ireturn, 1) := by decide +kernel
theorem dL_law_407 : decode cL_law 407 = .ok (.aload_n 1, 1) := by decide +kernel
theorem dL_law_408 : decode cL_law 408 = .ok (.aload_n 0, 1) := by decide +kernel
theorem dL_law_409 : decode cL_law 409 = .ok (.iload_n 3, 1) := by decide +kernel
theorem dL_law_410 : decode cL_law 410 = .ok (.iconst 1, 1) := by decide +kernel
theorem dL_law_411 : decode cL_law 411 = .ok (.iadd, 1) := by decide +kernel
theorem dL_law_412 : decode cL_law 412 = .ok (.iaload, 1) := by decide +kernel
theorem dL_law_413 : decode cL_law 413 = .ok (.invokevirtual 37, 3) := by decide +kernel
theorem dL_law_416 : decode cL_law 416 = .ok (.aload_n 2, 1) := by decide +kernel
theorem dL_law_417 : decode cL_law 417 = .ok (.aload_n 0, 1) := by decide +kernel
theorem dL_law_418 : decode cL_law 418 = .ok (.iload_n 3, 1) := by decide +kernel
theorem dL_law_419 : decode cL_law 419 = .ok (.iconst 1, 1) := by decide +kernel
theorem dL_law_420 : decode cL_law 420 = .ok (.iadd, 1) := by decide +kernel
theorem dL_law_421 : decode cL_law 421 = .ok (.iaload, 1) := by decide +kernel
theorem dL_law_422 : decode cL_law 422 = .ok (.invokevirtual 40, 3) := by decide +kernel
theorem dL_law_425 : decode cL_law 425 = .ok (.if_icmp .eq 823, 3) := by decide +kernel
theorem dL_law_428 : decode cL_law 428 = .ok (.iconst 0, 1) := by decide +kernel
theorem dL_law_429 : decode cL_law 429 = .ok (.ireturn, 1) := by decide +kernel
theorem dL_law_430 : decode cL_law 430 = .ok (.aload_n 1, 1) := by decide +kernel
theorem dL_law_431 : decode cL_law 431 = .ok (.aload_n 0, 1) := by decide +kernel
theorem dL_law_432 : decode cL_law 432 = .ok (.iload_n 3, 1) := by decide +kernel
theorem dL_law_433 : decode cL_law 433 = .ok (.iconst 1, 1) := by decide +kernel
theorem dL_law_434 : decode cL_law 434 = .ok (.iadd, 1) := by decide +kernel
theorem dL_law_435 : decode cL_law 435 = .ok (.iaload, 1) := by decide +kernel
theorem dL_law_436 : decode cL_law 436 = .ok (.aload_n 0, 1) := by decide +kernel
theorem dL_law_437 : decode cL_law 437 = .ok (.iload_n 3, 1) := by decide +kernel
theorem dL_law_438 : decode cL_law 438 = .ok (.iconst 2, 1) := by decide +kernel
theorem dL_law_439 : decode cL_law 439 = .ok (.iadd, 1) := by decide +kernel
theorem dL_law_440 : decode cL_law 440 = .ok (.iaload, 1) := by decide +kernel
theorem dL_law_441 : decode cL_law 441 = .ok (.invokevirtual 41, 3) := by decide +kernel
theorem dL_law_444 : decode cL_law 444 = .ok (.aload_n 2, 1) := by decide +kernel
theorem dL_law_445 : decode cL_law 445 = .ok (.aload_n 0, 1) := by decide +kernel
theorem dL_law_446 : decode cL_law 446 = .ok (.iload_n 3, 1) := by decide +kernel
theorem dL_law_447 : decode cL_law 447 = .ok (.iconst 1, 1) := by decide +kernel
theorem dL_law_448 : decode cL_law 448 = .ok (.iadd, 1) := by decide +kernel
theorem dL_law_449 : decode cL_law 449 = .ok (.iaload, 1) := by decide +kernel
theorem dL_law_450 : decode cL_law 450 = .ok (.aload_n 0, 1) := by decide +kernel
theorem dL_law_451 : decode cL_law 451 = .ok (.iload_n 3, 1) := by decide +kernel
theorem dL_law_452 : decode cL_law 452 = .ok (.iconst 2, 1) := by decide +kernel
theorem dL_law_453 : decode cL_law 453 = .ok (.iadd, 1) := by decide +kernel
theorem dL_law_454 : decode cL_law 454 = .ok (.iaload, 1) := by decide +kernel
theorem dL_law_455 : decode cL_law 455 = .ok (.invokevirtual 44, 3) := by decide +kernel
theorem dL_law_458 : decode cL_law 458 = .ok (.if_icmp .eq 790, 3) := by decide +kernel
theorem dL_law_461 : decode cL_law 461 = .ok (.iconst 0, 1) := by decide +kernel
theorem dL_law_462 : decode cL_law 462 = .ok (.ireturn, 1) := by decide +kernel
theorem dL_law_463 : decode cL_law 463 = .ok (.aload_n 1, 1) := by decide +kernel
theorem dL_law_464 : decode cL_law 464 = .ok (.aload_n 0, 1) := by decide +kernel
theorem dL_law_465 : decode cL_law 465 = .ok (.iload_n 3, 1) := by decide +kernel
theorem dL_law_466 : decode cL_law 466 = .ok (.iconst 1, 1) := by decide +kernel
theorem dL_law_467 : decode cL_law 467 = .ok (.iadd, 1) := by decide +kernel
theorem dL_law_468 : decode cL_law 468 = .ok (.iaload, 1) := by decide +kernel
theorem dL_law_469 : decode cL_law 469 = .ok (.aload_n 0, 1) := by decide +kernel
theorem dL_law_470 : decode cL_law 470 = .ok (.iload_n 3, 1) := by decide +kernel
theorem dL_law_471 : decode cL_law 471 = .ok (.iconst 2, 1) := by decide +kernel
theorem dL_law_472 : decode cL_law 472 = .ok (.iadd, 1) := by decide +kernel
theorem dL_law_473 : decode cL_law 473 = .ok (.iaload, 1) := by decide +kernel
theorem dL_law_474 : decode cL_law 474 = .ok (.aload_n 0, 1) := by decide +kernel
theorem dL_law_475 : decode cL_law 475 = .ok (.iload_n 3, 1) := by decide +kernel
theorem dL_law_476 : decode cL_law 476 = .ok (.iconst 3, 1) := by decide +kernel
theorem dL_law_477 : decode cL_law 477 = .ok (.iadd, 1) := by decide +kernel
theorem dL_law_478 : decode cL_law 478 = .ok (.iaload, 1) := by decide +kernel
theorem dL_law_479 : decode cL_law 479 = .ok (.invokevirtual 45, 3) := by decide +kernel
theorem dL_law_482 : decode cL_law 482 = .ok (.aload_n 2, 1) := by decide +kernel
theorem dL_law_483 : decode cL_law 483 = .ok (.aload_n 0, 1) := by decide +kernel
theorem dL_law_484 : decode cL_law 484 = .ok (.iload_n 3, 1) := by decide +kernel
theorem dL_law_485 : decode cL_law 485 = .ok (.iconst 1, 1) := by decide +kernel
theorem dL_law_486 : decode cL_law 486 = .ok (.iadd, 1) := by decide +kernel
theorem dL_law_487 : decode cL_law 487 = .ok (.iaload, 1) := by decide +kernel
theorem dL_law_488 : decode cL_law 488 = .ok (.aload_n 0, 1) := by decide +kernel
theorem dL_law_489 : decode cL_law 489 = .ok (.iload_n 3, 1) := by decide +kernel
theorem dL_law_490 : decode cL_law 490 = .ok (.iconst 2, 1) := by decide +kernel
theorem dL_law_491 : decode cL_law 491 = .ok (.iadd, 1) := by decide +kernel
theorem dL_law_492 : decode cL_law 492 = .ok (.iaload, 1) := by decide +kernel
theorem dL_law_493 : decode cL_law 493 = .ok (.aload_n 0, 1) := by decide +kernel
theorem dL_law_494 : decode cL_law 494 = .ok (.iload_n 3, 1) := by decide +kernel
theorem dL_law_495 : decode cL_law 495 = .ok (.iconst 3, 1) := by decide +kernel
theorem dL_law_496 : decode cL_law 496 = .ok (.iadd, 1) := by decide +kernel
theorem dL_law_497 : decode cL_law 497 = .ok (.iaload, 1) := by decide +kernel
theorem dL_law_498 : decode cL_law 498 = .ok (.invokevirtual 48, 3) := by decide +kernel
theorem dL_law_501 : decode cL_law 501 = .ok (.if_icmp .eq 747, 3) := by decide +kernel
theorem dL_law_504 : decode cL_law 504 = .ok (.iconst 0, 1) := by decide +kernel
theorem dL_law_505 : decode cL_law 505 = .ok (.ireturn, 1) := by decide +kernel
theorem dL_law_506 : decode cL_law 506 = .ok (.aload_n 1, 1) := by decide +kernel
theorem dL_law_507 : decode cL_law 507 = .ok (.aload_n 0, 1) := by decide +kernel
theorem dL_law_508 : decode cL_law 508 = .ok (.iload_n 3, 1) := by decide +kernel
theorem dL_law_509 : decode cL_law 509 = .ok (.iconst 1, 1) := by decide +kernel
theorem dL_law_510 : decode cL_law 510 = .ok (.iadd, 1) := by decide +kernel
theorem dL_law_511 : decode cL_law 511 = .ok (.iaload, 1) := by decide +kernel
theorem dL_law_512 : decode cL_law 512 = .ok (.invokevirtual 49, 3) := by decide +kernel
theorem dL_law_515 : decode cL_law 515 = .ok (.aload_n 2, 1) := by decide +kernel
theorem dL_law_516 : decode cL_law 516 = .ok (.aload_n 0, 1) := by decide +kernel
theorem dL_law_517 : decode cL_law 517 = .ok (.iload_n 3, 1) := by decide +kernel
theorem dL_law_518 : decode cL_law 518 = .ok (.iconst 1, 1) := by decide +kernel
theorem dL_law_519 : decode cL_law 519 = .ok (.iadd, 1) := by decide +kernel
theorem dL_law_520 : decode cL_law 520 = .ok (.iaload, 1) := by decide +kernel
theorem dL_law_521 : decode cL_law 521 = .ok (.invokevirtual 52, 3) := by decide +kernel
theorem dL_law_524 : decode cL_law 524 = .ok (.if_icmp .eq 724, 3) := by decide +kernel
theorem dL_law_527 : decode cL_law 527 = .ok (.iconst 0, 1) := by decide +kernel
theorem dL_law_528 : decode cL_law 528 = .ok (.ireturn, 1) := by decide +kernel
theorem dL_law_529 : decode cL_law 529 = .ok (.aload_n 1, 1) := by decide +kernel
theorem dL_law_530 : decode cL_law 530 = .ok (.aload_n 0, 1) := by decide +kernel
theorem dL_law_531 : decode cL_law 531 = .ok (.iload_n 3, 1) := by decide +kernel
theorem dL_law_532 : decode cL_law 532 = .ok (.iconst 1, 1) := by decide +kernel
theorem dL_law_533 : decode cL_law 533 = .ok (.iadd, 1) := by decide +kernel
theorem dL_law_534 : decode cL_law 534 = .ok (.iaload, 1) := by decide +kernel
theorem dL_law_535 : decode cL_law 535 = .ok (.invokevirtual 53, 3) := by decide +kernel
theorem dL_law_538 : decode cL_law 538 = .ok (.aload_n 2, 1) := by decide +kernel
theorem dL_law_539 : decode cL_law 539 = .ok (.aload_n 0, 1) := by decide +kernel
theorem dL_law_540 : decode cL_law 540 = .ok (.iload_n 3, 1) := by decide +kernel
theorem dL_law_541 : decode cL_law 541 = .ok (.iconst 1, 1) := by decide +kernel
theorem dL_law_542 : decode cL_law 542 = .ok (.iadd, 1) := by decide +kernel
theorem dL_law_543 : decode cL_law 543 = .ok (.iaload, 1) := by decide +kernel
theorem dL_law_544 : decode cL_law 544 = .ok (.invokevirtual 56, 3) := by decide +kernel
theorem dL_law_547 : decode cL_law 547 = .ok (.if_icmp .eq 701, 3) := by decide +kernel
theorem dL_law_550 : decode cL_law 550 = .ok (.iconst 0, 1) := by decide +kernel
theorem dL_law_551 : decode cL_law 551 = .ok (.ireturn, 1) := by decide +kernel
theorem dL_law_552 : decode cL_law 552 = .ok (.aload_n 1, 1) := by decide +kernel
theorem dL_law_553 : decode cL_law 553 = .ok (.aload_n 0, 1) := by decide +kernel
theorem dL_law_554 : decode cL_law 554 = .ok (.iload_n 3, 1) := by decide +kernel
theorem dL_law_555 : decode cL_law 555 = .ok (.iconst 1, 1) := by decide +kernel
theorem dL_law_556 : decode cL_law 556 = .ok (.iadd, 1) := by decide +kernel
theorem dL_law_557 : decode cL_law 557 = .ok (.iaload, 1) := by decide +kernel
theorem dL_law_558 : decode cL_law 558 = .ok (.aload_n 0, 1) := by decide +kernel
theorem dL_law_559 : decode cL_law 559 = .ok (.iload_n 3, 1) := by decide +kernel
theorem dL_law_560 : decode cL_law 560 = .ok (.iconst 2, 1) := by decide +kernel
theorem dL_law_561 : decode cL_law 561 = .ok (.iadd, 1) := by decide +kernel
theorem dL_law_562 : decode cL_law 562 = .ok (.iaload, 1) := by decide +kernel
theorem dL_law_563 : decode cL_law 563 = .ok (.invokevirtual 57, 3) := by decide +kernel
theorem dL_law_566 : decode cL_law 566 = .ok (.aload_n 2, 1) := by decide +kernel
theorem dL_law_567 : decode cL_law 567 = .ok (.aload_n 0, 1) := by decide +kernel
theorem dL_law_568 : decode cL_law 568 = .ok (.iload_n 3, 1) := by decide +kernel
theorem dL_law_569 : decode cL_law 569 = .ok (.iconst 1, 1) := by decide +kernel
theorem dL_law_570 : decode cL_law 570 = .ok (.iadd, 1) := by decide +kernel
theorem dL_law_571 : decode cL_law 571 = .ok (.iaload, 1) := by decide +kernel
theorem dL_law_572 : decode cL_law 572 = .ok (.aload_n 0, 1) := by decide +kernel
theorem dL_law_573 : decode cL_law 573 = .ok (.iload_n 3, 1) := by decide +kernel
theorem dL_law_574 : decode cL_law 574 = .ok (.iconst 2, 1) := by decide +kernel
theorem dL_law_575 : decode cL_law 575 = .ok (.iadd, 1) := by decide +kernel
theorem dL_law_576 : decode cL_law 576 = .ok (.iaload, 1) := by decide +kernel
theorem dL_law_577 : decode cL_law 577 = .ok (.invokevirtual 60, 3) := by decide +kernel
theorem dL_law_580 : decode cL_law 580 = .ok (.if_icmp .eq 668, 3) := by decide +kernel
theorem dL_law_583 : decode cL_law 583 = .ok (.iconst 0, 1) := by decide +kernel
theorem dL_law_584 : decode cL_law 584 = .ok (.ireturn, 1) := by decide +kernel
theorem dL_law_585 : decode cL_law 585 = .ok (.aload_n 1, 1) := by decide +kernel
theorem dL_law_586 : decode cL_law 586 = .ok (.aload_n 0, 1) := by decide +kernel
theorem dL_law_587 : decode cL_law 587 = .ok (.iload_n 3, 1) := by decide +kernel
theorem dL_law_588 : decode cL_law 588 = .ok (.iconst 1, 1) := by decide +kernel
theorem dL_law_589 : decode cL_law 589 = .ok (.iadd, 1) := by decide +kernel
theorem dL_law_590 : decode cL_law 590 = .ok (.iaload, 1) := by decide +kernel
theorem dL_law_591 : decode cL_law 591 = .ok (.aload_n 0, 1) := by decide +kernel
theorem dL_law_592 : decode cL_law 592 = .ok (.iload_n 3, 1) := by decide +kernel
theorem dL_law_593 : decode cL_law 593 = .ok (.iconst 2, 1) := by decide +kernel
theorem dL_law_594 : decode cL_law 594 = .ok (.iadd, 1) := by decide +kernel
theorem dL_law_595 : decode cL_law 595 = .ok (.iaload, 1) := by decide +kernel
theorem dL_law_596 : decode cL_law 596 = .ok (.invokevirtual 61, 3) := by decide +kernel
theorem dL_law_599 : decode cL_law 599 = .ok (.aload_n 2, 1) := by decide +kernel
theorem dL_law_600 : decode cL_law 600 = .ok (.aload_n 0, 1) := by decide +kernel
theorem dL_law_601 : decode cL_law 601 = .ok (.iload_n 3, 1) := by decide +kernel
theorem dL_law_602 : decode cL_law 602 = .ok (.iconst 1, 1) := by decide +kernel
theorem dL_law_603 : decode cL_law 603 = .ok (.iadd, 1) := by decide +kernel
theorem dL_law_604 : decode cL_law 604 = .ok (.iaload, 1) := by decide +kernel
theorem dL_law_605 : decode cL_law 605 = .ok (.aload_n 0, 1) := by decide +kernel
theorem dL_law_606 : decode cL_law 606 = .ok (.iload_n 3, 1) := by decide +kernel
theorem dL_law_607 : decode cL_law 607 = .ok (.iconst 2, 1) := by decide +kernel
theorem dL_law_608 : decode cL_law 608 = .ok (.iadd, 1) := by decide +kernel
theorem dL_law_609 : decode cL_law 609 = .ok (.iaload, 1) := by decide +kernel
theorem dL_law_610 : decode cL_law 610 = .ok (.invokevirtual 64, 3) := by decide +kernel
theorem dL_law_613 : decode cL_law 613 = .ok (.if_icmp .eq 635, 3) := by decide +kernel
theorem dL_law_616 : decode cL_law 616 = .ok (.iconst 0, 1) := by decide +kernel
theorem dL_law_617 : decode cL_law 617 = .ok (.ireturn, 1) := by decide +kernel
theorem dL_law_618 : decode cL_law 618 = .ok (.aload_n 1, 1) := by decide +kernel
theorem dL_law_619 : decode cL_law 619 = .ok (.aload_n 0, 1) := by decide +kernel
theorem dL_law_620 : decode cL_law 620 = .ok (.iload_n 3, 1) := by decide +kernel
theorem dL_law_621 : decode cL_law 621 = .ok (.iconst 1, 1) := by decide +kernel
theorem dL_law_622 : decode cL_law 622 = .ok (.iadd, 1) := by decide +kernel
theorem dL_law_623 : decode cL_law 623 = .ok (.iaload, 1) := by decide +kernel
theorem dL_law_624 : decode cL_law 624 = .ok (.invokevirtual 65, 3) := by decide +kernel
theorem dL_law_627 : decode cL_law 627 = .ok (.aload_n 2, 1) := by decide +kernel
theorem dL_law_628 : decode cL_law 628 = .ok (.aload_n 0, 1) := by decide +kernel
theorem dL_law_629 : decode cL_law 629 = .ok (.iload_n 3, 1) := by decide +kernel
theorem dL_law_630 : decode cL_law 630 = .ok (.iconst 1, 1) := by decide +kernel
theorem dL_law_631 : decode cL_law 631 = .ok (.iadd, 1) := by decide +kernel
theorem dL_law_632 : decode cL_law 632 = .ok (.iaload, 1) := by decide +kernel
theorem dL_law_633 : decode cL_law 633 = .ok (.invokevirtual 68, 3) := by decide +kernel
theorem dL_law_636 : decode cL_law 636 = .ok (.if_icmp .eq 612, 3) := by decide +kernel
theorem dL_law_639 : decode cL_law 639 = .ok (.iconst 0, 1) := by decide +kernel
theorem dL_law_640 : decode cL_law 640 = .ok (.ireturn, 1) := by decide +kernel
theorem dL_law_641 : decode cL_law 641 = .ok (.aload_n 1, 1) := by decide +kernel
theorem dL_law_642 : decode cL_law 642 = .ok (.aload_n 0, 1) := by decide +kernel
theorem dL_law_643 : decode cL_law 643 = .ok (.iload_n 3, 1) := by decide +kernel
theorem dL_law_644 : decode cL_law 644 = .ok (.iconst 1, 1) := by decide +kernel
theorem dL_law_645 : decode cL_law 645 = .ok (.iadd, 1) := by decide +kernel
theorem dL_law_646 : decode cL_law 646 = .ok (.iaload, 1) := by decide +kernel
theorem dL_law_647 : decode cL_law 647 = .ok (.invokevirtual 69, 3) := by decide +kernel
theorem dL_law_650 : decode cL_law 650 = .ok (.aload_n 2, 1) := by decide +kernel
theorem dL_law_651 : decode cL_law 651 = .ok (.aload_n 0, 1) := by decide +kernel
theorem dL_law_652 : decode cL_law 652 = .ok (.iload_n 3, 1) := by decide +kernel
theorem dL_law_653 : decode cL_law 653 = .ok (.iconst 1, 1) := by decide +kernel
theorem dL_law_654 : decode cL_law 654 = .ok (.iadd, 1) := by decide +kernel
theorem dL_law_655 : decode cL_law 655 = .ok (.iaload, 1) := by decide +kernel
theorem dL_law_656 : decode cL_law 656 = .ok (.invokevirtual 72, 3) := by decide +kernel
theorem dL_law_659 : decode cL_law 659 = .ok (.if_icmp .eq 589, 3) := by decide +kernel
theorem dL_law_662 : decode cL_law 662 = .ok (.iconst 0, 1) := by decide +kernel
theorem dL_law_663 : decode cL_law 663 = .ok (.ireturn, 1) := by decide +kernel
theorem dL_law_664 : decode cL_law 664 = .ok (.aload_n 1, 1) := by decide +kernel
theorem dL_law_665 : decode cL_law 665 = .ok (.aload_n 0, 1) := by decide +kernel
theorem dL_law_666 : decode cL_law 666 = .ok (.iload_n 3, 1) := by decide +kernel
theorem dL_law_667 : decode cL_law 667 = .ok (.iconst 1, 1) := by decide +kernel
theorem dL_law_668 : decode cL_law 668 = .ok (.iadd, 1) := by decide +kernel
theorem dL_law_669 : decode cL_law 669 = .ok (.iaload, 1) := by decide +kernel
theorem dL_law_670 : decode cL_law 670 = .ok (.invokevirtual 73, 3) := by decide +kernel
theorem dL_law_673 : decode cL_law 673 = .ok (.aload_n 2, 1) := by decide +kernel
theorem dL_law_674 : decode cL_law 674 = .ok (.aload_n 0, 1) := by decide +kernel
theorem dL_law_675 : decode cL_law 675 = .ok (.iload_n 3, 1) := by decide +kernel
theorem dL_law_676 : decode cL_law 676 = .ok (.iconst 1, 1) := by decide +kernel
theorem dL_law_677 : decode cL_law 677 = .ok (.iadd, 1) := by decide +kernel
theorem dL_law_678 : decode cL_law 678 = .ok (.iaload, 1) := by decide +kernel
theorem dL_law_679 : decode cL_law 679 = .ok (.invokevirtual 76, 3) := by decide +kernel
theorem dL_law_682 : decode cL_law 682 = .ok (.if_icmp .eq 566, 3) := by decide +kernel
theorem dL_law_685 : decode cL_law 685 = .ok (.iconst 0, 1) := by decide +kernel
theorem dL_law_686 : decode cL_law 686 = .ok (.ireturn, 1) := by decide +kernel
theorem dL_law_687 : decode cL_law 687 = .ok (.aload_n 1, 1) := by decide +kernel
theorem dL_law_688 : decode cL_law 688 = .ok (.aload_n 0, 1) := by decide +kernel
theorem dL_law_689 : decode cL_law 689 = .ok (.iload_n 3, 1) := by decide +kernel
theorem dL_law_690 : decode cL_law 690 = .ok (.iconst 1, 1) := by decide +kernel
theorem dL_law_691 : decode cL_law 691 = .ok (.iadd, 1) := by decide +kernel
theorem dL_law_692 : decode cL_law 692 = .ok (.iaload, 1) := by decide +kernel
theorem dL_law_693 : decode cL_law 693 = .ok (.invokevirtual 77, 3) := by decide +kernel
theorem dL_law_696 : decode cL_law 696 = .ok (.aload_n 2, 1) := by decide +kernel
theorem dL_law_697 : decode cL_law 697 = .ok (.aload_n 0, 1) := by decide +kernel
theorem dL_law_698 : decode cL_law 698 = .ok (.iload_n 3, 1) := by decide +kernel
theorem dL_law_699 : decode cL_law 699 = .ok (.iconst 1, 1) := by decide +kernel
theorem dL_law_700 : decode cL_law 700 = .ok (.iadd, 1) := by decide +kernel
theorem dL_law_701 : decode cL_law 701 = .ok (.iaload, 1) := by decide +kernel
theorem dL_law_702 : decode cL_law 702 = .ok (.invokevirtual 80, 3) := by decide +kernel
theorem dL_law_705 : decode cL_law 705 = .ok (.if_icmp .eq 543, 3) := by decide +kernel
theorem dL_law_708 : decode cL_law 708 = .ok (.iconst 0, 1) := by decide +kernel
theorem dL_law_709 : decode cL_law 709 = .ok (.ireturn, 1) := by decide +kernel
theorem dL_law_710 : decode cL_law 710 = .ok (.aload_n 1, 1) := by decide +kernel
theorem dL_law_711 : decode cL_law 711 = .ok (.aload_n 0, 1) := by decide +kernel
theorem dL_law_712 : decode cL_law 712 = .ok (.iload_n 3, 1) := by decide +kernel
theorem dL_law_713 : decode cL_law 713 = .ok (.iconst 1, 1) := by decide +kernel
theorem dL_law_714 : decode cL_law 714 = .ok (.iadd, 1) := by decide +kernel
theorem dL_law_715 : decode cL_law 715 = .ok (.iaload, 1) := by decide +kernel
theorem dL_law_716 : decode cL_law 716 = .ok (.invokevirtual 81, 3) := by decide +kernel
theorem dL_law_719 : decode cL_law 719 = .ok (.aload_n 2, 1) := by decide +kernel
theorem dL_law_720 : decode cL_law 720 = .ok (.aload_n 0, 1) := by decide +kernel
theorem dL_law_721 : decode cL_law 721 = .ok (.iload_n 3, 1) := by decide +kernel
theorem dL_law_722 : decode cL_law 722 = .ok (.iconst 1, 1) := by decide +kernel
theorem dL_law_723 : decode cL_law 723 = .ok (.iadd, 1) := by decide +kernel
theorem dL_law_724 : decode cL_law 724 = .ok (.iaload, 1) := by decide +kernel
theorem dL_law_725 : decode cL_law 725 = .ok (.invokevirtual 84, 3) := by decide +kernel
theorem dL_law_728 : decode cL_law 728 = .ok (.if_icmp .eq 520, 3) := by decide +kernel
theorem dL_law_731 : decode cL_law 731 = .ok (.iconst 0, 1) := by decide +kernel
theorem dL_law_732 : decode cL_law 732 = .ok (.ireturn, 1) := by decide +kernel
theorem dL_law_733 : decode cL_law 733 = .ok (.aload_n 1, 1) := by decide +kernel
theorem dL_law_734 : decode cL_law 734 = .ok (.aload_n 0, 1) := by decide +kernel
theorem dL_law_735 : decode cL_law 735 = .ok (.iload_n 3, 1) := by decide +kernel
theorem dL_law_736 : decode cL_law 736 = .ok (.iconst 1, 1) := by decide +kernel
theorem dL_law_737 : decode cL_law 737 = .ok (.iadd, 1) := by decide +kernel
theorem dL_law_738 : decode cL_law 738 = .ok (.iaload, 1) := by decide +kernel
theorem dL_law_739 : decode cL_law 739 = .ok (.invokevirtual 85, 3) := by decide +kernel
theorem dL_law_742 : decode cL_law 742 = .ok (.aload_n 2, 1) := by decide +kernel
theorem dL_law_743 : decode cL_law 743 = .ok (.aload_n 0, 1) := by decide +kernel
theorem dL_law_744 : decode cL_law 744 = .ok (.iload_n 3, 1) := by decide +kernel
theorem dL_law_745 : decode cL_law 745 = .ok (.iconst 1, 1) := by decide +kernel
theorem dL_law_746 : decode cL_law 746 = .ok (.iadd, 1) := by decide +kernel
theorem dL_law_747 : decode cL_law 747 = .ok (.iaload, 1) := by decide +kernel
theorem dL_law_748 : decode cL_law 748 = .ok (.invokevirtual 88, 3) := by decide +kernel
theorem dL_law_751 : decode cL_law 751 = .ok (.if_icmp .eq 497, 3) := by decide +kernel
theorem dL_law_754 : decode cL_law 754 = .ok (.iconst 0, 1) := by decide +kernel
theorem dL_law_755 : decode cL_law 755 = .ok (.ireturn, 1) := by decide +kernel
theorem dL_law_756 : decode cL_law 756 = .ok (.aload_n 1, 1) := by decide +kernel
theorem dL_law_757 : decode cL_law 757 = .ok (.invokevirtual 89, 3) := by decide +kernel
theorem dL_law_760 : decode cL_law 760 = .ok (.aload_n 2, 1) := by decide +kernel
theorem dL_law_761 : decode cL_law 761 = .ok (.invokevirtual 93, 3) := by decide +kernel
theorem dL_law_764 : decode cL_law 764 = .ok (.if_icmp .eq 484, 3) := by decide +kernel
theorem dL_law_767 : decode cL_law 767 = .ok (.iconst 0, 1) := by decide +kernel
theorem dL_law_768 : decode cL_law 768 = .ok (.ireturn, 1) := by decide +kernel
theorem dL_law_769 : decode cL_law 769 = .ok (.aload_n 1, 1) := by decide +kernel
theorem dL_law_770 : decode cL_law 770 = .ok (.aload_n 0, 1) := by decide +kernel
theorem dL_law_771 : decode cL_law 771 = .ok (.iload_n 3, 1) := by decide +kernel
theorem dL_law_772 : decode cL_law 772 = .ok (.iconst 1, 1) := by decide +kernel
theorem dL_law_773 : decode cL_law 773 = .ok (.iadd, 1) := by decide +kernel
theorem dL_law_774 : decode cL_law 774 = .ok (.iaload, 1) := by decide +kernel
theorem dL_law_775 : decode cL_law 775 = .ok (.invokevirtual 94, 3) := by decide +kernel
theorem dL_law_778 : decode cL_law 778 = .ok (.aload_n 2, 1) := by decide +kernel
theorem dL_law_779 : decode cL_law 779 = .ok (.aload_n 0, 1) := by decide +kernel
theorem dL_law_780 : decode cL_law 780 = .ok (.iload_n 3, 1) := by decide +kernel
theorem dL_law_781 : decode cL_law 781 = .ok (.iconst 1, 1) := by decide +kernel
theorem dL_law_782 : decode cL_law 782 = .ok (.iadd, 1) := by decide +kernel
theorem dL_law_783 : decode cL_law 783 = .ok (.iaload, 1) := by decide +kernel
theorem dL_law_784 : decode cL_law 784 = .ok (.invokevirtual 97, 3) := by decide +kernel
theorem dL_law_787 : decode cL_law 787 = .ok (.if_icmp .eq 461, 3) := by decide +kernel
theorem dL_law_790 : decode cL_law 790 = .ok (.iconst 0, 1) := by decide +kernel
theorem dL_law_791 : decode cL_law 791 = .ok (.ireturn, 1) := by decide +kernel
theorem dL_law_792 : decode cL_law 792 = .ok (.aload_n 1, 1) := by decide +kernel
theorem dL_law_793 : decode cL_law 793 = .ok (.invokevirtual 98, 3) := by decide +kernel
theorem dL_law_796 : decode cL_law 796 = .ok (.aload_n 2, 1) := by decide +kernel
theorem dL_law_797 : decode cL_law 797 = .ok (.invokevirtual 101, 3) := by decide +kernel
theorem dL_law_800 : decode cL_law 800 = .ok (.if_icmp .eq 448, 3) := by decide +kernel
theorem dL_law_803 : decode cL_law 803 = .ok (.iconst 0, 1) := by decide +kernel
theorem dL_law_804 : decode cL_law 804 = .ok (.ireturn, 1) := by decide +kernel
theorem dL_law_805 : decode cL_law 805 = .ok (.aload_n 1, 1) := by decide +kernel
theorem dL_law_806 : decode cL_law 806 = .ok (.aload_n 0, 1) := by decide +kernel
theorem dL_law_807 : decode cL_law 807 = .ok (.iload_n 3, 1) := by decide +kernel
theorem dL_law_808 : decode cL_law 808 = .ok (.iconst 1, 1) := by decide +kernel
theorem dL_law_809 : decode cL_law 809 = .ok (.iadd, 1) := by decide +kernel
theorem dL_law_810 : decode cL_law 810 = .ok (.iaload, 1) := by decide +kernel
theorem dL_law_811 : decode cL_law 811 = .ok (.aload_n 0, 1) := by decide +kernel
theorem dL_law_812 : decode cL_law 812 = .ok (.iload_n 3, 1) := by decide +kernel
theorem dL_law_813 : decode cL_law 813 = .ok (.iconst 2, 1) := by decide +kernel
theorem dL_law_814 : decode cL_law 814 = .ok (.iadd, 1) := by decide +kernel
theorem dL_law_815 : decode cL_law 815 = .ok (.iaload, 1) := by decide +kernel
theorem dL_law_816 : decode cL_law 816 = .ok (.invokevirtual 102, 3) := by decide +kernel
theorem dL_law_819 : decode cL_law 819 = .ok (.aload_n 2, 1) := by decide +kernel
theorem dL_law_820 : decode cL_law 820 = .ok (.aload_n 0, 1) := by decide +kernel
theorem dL_law_821 : decode cL_law 821 = .ok (.iload_n 3, 1) := by decide +kernel
theorem dL_law_822 : decode cL_law 822 = .ok (.iconst 1, 1) := by decide +kernel
theorem dL_law_823 : decode cL_law 823 = .ok (.iadd, 1) := by decide +kernel
theorem dL_law_824 : decode cL_law 824 = .ok (.iaload, 1) := by decide +kernel
theorem dL_law_825 : decode cL_law 825 = .ok (.aload_n 0, 1) := by decide +kernel
theorem dL_law_826 : decode cL_law 826 = .ok (.iload_n 3, 1) := by decide +kernel
theorem dL_law_827 : decode cL_law 827 = .ok (.iconst 2, 1) := by decide +kernel
theorem dL_law_828 : decode cL_law 828 = .ok (.iadd, 1) := by decide +kernel
theorem dL_law_829 : decode cL_law 829 = .ok (.iaload, 1) := by decide +kernel
theorem dL_law_830 : decode cL_law 830 = .ok (.invokevirtual 105, 3) := by decide +kernel
theorem dL_law_833 : decode cL_law 833 = .ok (.if_icmp .eq 415, 3) := by decide +kernel
theorem dL_law_836 : decode cL_law 836 = .ok (.iconst 0, 1) := by decide +kernel
theorem dL_law_837 : decode cL_law 837 = .ok (.ireturn, 1) := by decide +kernel
theorem dL_law_838 : decode cL_law 838 = .ok (.aload_n 1, 1) := by decide +kernel
theorem dL_law_839 : decode cL_law 839 = .ok (.aload_n 0, 1) := by decide +kernel
theorem dL_law_840 : decode cL_law 840 = .ok (.iload_n 3, 1) := by decide +kernel
theorem dL_law_841 : decode cL_law 841 = .ok (.iconst 1, 1) := by decide +kernel
theorem dL_law_842 : decode cL_law 842 = .ok (.iadd, 1) := by decide +kernel
theorem dL_law_843 : decode cL_law 843 = .ok (.iaload, 1) := by decide +kernel
theorem dL_law_844 : decode cL_law 844 = .ok (.invokevirtual 106, 3) := by decide +kernel
theorem dL_law_847 : decode cL_law 847 = .ok (.aload_n 2, 1) := by decide +kernel
theorem dL_law_848 : decode cL_law 848 = .ok (.aload_n 0, 1) := by decide +kernel
theorem dL_law_849 : decode cL_law 849 = .ok (.iload_n 3, 1) := by decide +kernel
theorem dL_law_850 : decode cL_law 850 = .ok (.iconst 1, 1) := by decide +kernel
theorem dL_law_851 : decode cL_law 851 = .ok (.iadd, 1) := by decide +kernel
theorem dL_law_852 : decode cL_law 852 = .ok (.iaload, 1) := by decide +kernel
theorem dL_law_853 : decode cL_law 853 = .ok (.invokevirtual 109, 3) := by decide +kernel
theorem dL_law_856 : decode cL_law 856 = .ok (.if_icmp .eq 392, 3) := by decide +kernel
theorem dL_law_859 : decode cL_law 859 = .ok (.iconst 0, 1) := by decide +kernel
theorem dL_law_860 : decode cL_law 860 = .ok (.ireturn, 1) := by decide +kernel
theorem dL_law_861 : decode cL_law 861 = .ok (.aload_n 1, 1) := by decide +kernel
theorem dL_law_862 : decode cL_law 862 = .ok (.aload_n 0, 1) := by decide +kernel
theorem dL_law_863 : decode cL_law 863 = .ok (.iload_n 3, 1) := by decide +kernel
theorem dL_law_864 : decode cL_law 864 = .ok (.iconst 1, 1) := by decide +kernel
theorem dL_law_865 : decode cL_law 865 = .ok (.iadd, 1) := by decide +kernel
theorem dL_law_866 : decode cL_law 866 = .ok (.iaload, 1) := by decide +kernel
theorem dL_law_867 : decode cL_law 867 = .ok (.invokevirtual 110, 3) := by decide +kernel
theorem dL_law_870 : decode cL_law 870 = .ok (.aload_n 2, 1) := by decide +kernel
theorem dL_law_871 : decode cL_law 871 = .ok (.aload_n 0, 1) := by decide +kernel
theorem dL_law_872 : decode cL_law 872 = .ok (.iload_n 3, 1) := by decide +kernel
theorem dL_law_873 : decode cL_law 873 = .ok (.iconst 1, 1) := by decide +kernel
theorem dL_law_874 : decode cL_law 874 = .ok (.iadd, 1) := by decide +kernel
theorem dL_law_875 : decode cL_law 875 = .ok (.iaload, 1) := by decide +kernel
theorem dL_law_876 : decode cL_law 876 = .ok (.invokevirtual 113, 3) := by decide +kernel
theorem dL_law_879 : decode cL_law 879 = .ok (.if_icmp .eq 369, 3) := by decide +kernel
theorem dL_law_882 : decode cL_law 882 = .ok (.iconst 0, 1) := by decide +kernel
theorem dL_law_883 : decode cL_law 883 = .ok (.ireturn, 1) := by decide +kernel
theorem dL_law_884 : decode cL_law 884 = .ok (.aload_n 1, 1) := by decide +kernel
theorem dL_law_885 : decode cL_law 885 = .ok (.aload_n 0, 1) := by decide +kernel
theorem dL_law_886 : decode cL_law 886 = .ok (.iload_n 3, 1) := by decide +kernel
theorem dL_law_887 : decode cL_law 887 = .ok (.iconst 1, 1) := by decide +kernel
theorem dL_law_888 : decode cL_law 888 = .ok (.iadd, 1) := by decide +kernel
theorem dL_law_889 : decode cL_law 889 = .ok (.iaload, 1) := by decide +kernel
theorem dL_law_890 : decode cL_law 890 = .ok (.invokevirtual 114, 3) := by decide +kernel
theorem dL_law_893 : decode cL_law 893 = .ok (.aload_n 2, 1) := by decide +kernel
theorem dL_law_894 : decode cL_law 894 = .ok (.aload_n 0, 1) := by decide +kernel
theorem dL_law_895 : decode cL_law 895 = .ok (.iload_n 3, 1) := by decide +kernel
theorem dL_law_896 : decode cL_law 896 = .ok (.iconst 1, 1) := by decide +kernel
theorem dL_law_897 : decode cL_law 897 = .ok (.iadd, 1) := by decide +kernel
theorem dL_law_898 : decode cL_law 898 = .ok (.iaload, 1) := by decide +kernel
theorem dL_law_899 : decode cL_law 899 = .ok (.invokevirtual 117, 3) := by decide +kernel
theorem dL_law_902 : decode cL_law 902 = .ok (.if_icmp .eq 346, 3) := by decide +kernel
theorem dL_law_905 : decode cL_law 905 = .ok (.iconst 0, 1) := by decide +kernel
theorem dL_law_906 : decode cL_law 906 = .ok (.ireturn, 1) := by decide +kernel
theorem dL_law_907 : decode cL_law 907 = .ok (.aload_n 1, 1) := by decide +kernel
theorem dL_law_908 : decode cL_law 908 = .ok (.invokevirtual 118, 3) := by decide +kernel
theorem dL_law_911 : decode cL_law 911 = .ok (.aload_n 2, 1) := by decide +kernel
theorem dL_law_912 : decode cL_law 912 = .ok (.invokevirtual 121, 3) := by decide +kernel
theorem dL_law_915 : decode cL_law 915 = .ok (.if_icmp .eq 333, 3) := by decide +kernel
theorem dL_law_918 : decode cL_law 918 = .ok (.iconst 0, 1) := by decide +kernel
theorem dL_law_919 : decode cL_law 919 = .ok (.ireturn, 1) := by decide +kernel
theorem dL_law_920 : decode cL_law 920 = .ok (.aload_n 1, 1) := by decide +kernel
theorem dL_law_921 : decode cL_law 921 = .ok (.aload_n 0, 1) := by decide +kernel
theorem dL_law_922 : decode cL_law 922 = .ok (.iload_n 3, 1) := by decide +kernel
theorem dL_law_923 : decode cL_law 923 = .ok (.iconst 1, 1) := by decide +kernel
theorem dL_law_924 : decode cL_law 924 = .ok (.iadd, 1) := by decide +kernel
theorem dL_law_925 : decode cL_law 925 = .ok (.iaload, 1) := by decide +kernel
theorem dL_law_926 : decode cL_law 926 = .ok (.invokevirtual 122, 3) := by decide +kernel
theorem dL_law_929 : decode cL_law 929 = .ok (.aload_n 2, 1) := by decide +kernel
theorem dL_law_930 : decode cL_law 930 = .ok (.aload_n 0, 1) := by decide +kernel
theorem dL_law_931 : decode cL_law 931 = .ok (.iload_n 3, 1) := by decide +kernel
theorem dL_law_932 : decode cL_law 932 = .ok (.iconst 1, 1) := by decide +kernel
theorem dL_law_933 : decode cL_law 933 = .ok (.iadd, 1) := by decide +kernel
theorem dL_law_934 : decode cL_law 934 = .ok (.iaload, 1) := by decide +kernel
theorem dL_law_935 : decode cL_law 935 = .ok (.invokevirtual 125, 3) := by decide +kernel
theorem dL_law_938 : decode cL_law 938 = .ok (.if_icmp .eq 310, 3) := by decide +kernel
theorem dL_law_941 : decode cL_law 941 = .ok (.iconst 0, 1) := by decide +kernel
theorem dL_law_942 : decode cL_law 942 = .ok (.ireturn, 1) := by decide +kernel
theorem dL_law_943 : decode cL_law 943 = .ok (.aload_n 1, 1) := by decide +kernel
theorem dL_law_944 : decode cL_law 944 = .ok (.aload_n 0, 1) := by decide +kernel
theorem dL_law_945 : decode cL_law 945 = .ok (.iload_n 3, 1) := by decide +kernel
theorem dL_law_946 : decode cL_law 946 = .ok (.iconst 1, 1) := by decide +kernel
theorem dL_law_947 : decode cL_law 947 = .ok (.iadd, 1) := by decide +kernel
theorem dL_law_948 : decode cL_law 948 = .ok (.iaload, 1) := by decide +kernel
theorem dL_law_949 : decode cL_law 949 = .ok (.invokevirtual 126, 3) := by decide +kernel
theorem dL_law_952 : decode cL_law 952 = .ok (.aload_n 2, 1) := by decide +kernel
theorem dL_law_953 : decode cL_law 953 = .ok (.aload_n 0, 1) := by decide +kernel
theorem dL_law_954 : decode cL_law 954 = .ok (.iload_n 3, 1) := by decide +kernel
theorem dL_law_955 : decode cL_law 955 = .ok (.iconst 1, 1) := by decide +kernel
theorem dL_law_956 : decode cL_law 956 = .ok (.iadd, 1) := by decide +kernel
theorem dL_law_957 : decode cL_law 957 = .ok (.iaload, 1) := by decide +kernel
theorem dL_law_958 : decode cL_law 958 = .ok (.invokevirtual 129, 3) := by decide +kernel
theorem dL_law_961 : decode cL_law 961 = .ok (.if_icmp .eq 287, 3) := by decide +kernel
theorem dL_law_964 : decode cL_law 964 = .ok (.iconst 0, 1) := by decide +kernel
theorem dL_law_965 : decode cL_law 965 = .ok (.ireturn, 1) := by decide +kernel
theorem dL_law_966 : decode cL_law 966 = .ok (.aload_n 1, 1) := by decide +kernel
theorem dL_law_967 : decode cL_law 967 = .ok (.aload_n 0, 1) := by decide +kernel
theorem dL_law_968 : decode cL_law 968 = .ok (.iload_n 3, 1) := by decide +kernel
theorem dL_law_969 : decode cL_law 969 = .ok (.iconst 1, 1) := by decide +kernel
theorem dL_law_970 : decode cL_law 970 = .ok (.iadd, 1) := by decide +kernel
theorem dL_law_971 : decode cL_law 971 = .ok (.iaload, 1) := by decide +kernel
theorem dL_law_972 : decode cL_law 972 = .ok (.aload_n 0, 1) := by decide +kernel
theorem dL_law_973 : decode cL_law 973 = .ok (.iload_n 3, 1) := by decide +kernel
theorem dL_law_974 : decode cL_law 974 = .ok (.iconst 2, 1) := by decide +kernel
theorem dL_law_975 : decode cL_law 975 = .ok (.iadd, 1) := by decide +kernel
theorem dL_law_976 : decode cL_law 976 = .ok (.iaload, 1) := by decide +kernel
theorem dL_law_977 : decode cL_law 977 = .ok (.invokevirtual 130, 3) := by decide +kernel
theorem dL_law_980 : decode cL_law 980 = .ok (.aload_n 2, 1) := by decide +kernel
theorem dL_law_981 : decode cL_law 981 = .ok (.aload_n 0, 1) := by decide +kernel
theorem dL_law_982 : decode cL_law 982 = .ok (.iload_n 3, 1) := by decide +kernel
theorem dL_law_983 : decode cL_law 983 = .ok (.iconst 1, 1) := by decide +kernel
theorem dL_law_984 : decode cL_law 984 = .ok (.iadd, 1) := by decide +kernel
theorem dL_law_985 : decode cL_law 985 = .ok (.iaload, 1) := by decide +kernel
theorem dL_law_986 : decode cL_law 986 = .ok (.aload_n 0, 1) := by decide +kernel
theorem dL_law_987 : decode cL_law 987 = .ok (.iload_n 3, 1) := by decide +kernel
theorem dL_law_988 : decode cL_law 988 = .ok (.iconst 2, 1) := by decide +kernel
theorem dL_law_989 : decode cL_law 989 = .ok (.iadd, 1) := by decide +kernel
theorem dL_law_990 : decode cL_law 990 = .ok (.iaload, 1) := by decide +kernel
theorem dL_law_991 : decode cL_law 991 = .ok (.invokevirtual 133, 3) := by decide +kernel
theorem dL_law_994 : decode cL_law 994 = .ok (.if_icmp .eq 254, 3) := by decide +kernel
theorem dL_law_997 : decode cL_law 997 = .ok (.iconst 0, 1) := by decide +kernel
theorem dL_law_998 : decode cL_law 998 = .ok (.ireturn, 1) := by decide +kernel
theorem dL_law_999 : decode cL_law 999 = .ok (.aload_n 1, 1) := by decide +kernel
theorem dL_law_1000 : decode cL_law 1000 = .ok (.aload_n 0, 1) := by decide +kernel
theorem dL_law_1001 : decode cL_law 1001 = .ok (.iload_n 3, 1) := by decide +kernel
theorem dL_law_1002 : decode cL_law 1002 = .ok (.iconst 1, 1) := by decide +kernel
theorem dL_law_1003 : decode cL_law 1003 = .ok (.iadd, 1) := by decide +kernel
theorem dL_law_1004 : decode cL_law 1004 = .ok (.iaload, 1) := by decide +kernel
theorem dL_law_1005 : decode cL_law 1005 = .ok (.aload_n 0, 1) := by decide +kernel
theorem dL_law_1006 : decode cL_law 1006 = .ok (.iload_n 3, 1) := by decide +kernel
theorem dL_law_1007 : decode cL_law 1007 = .ok (.iconst 2, 1) := by decide +kernel
theorem dL_law_1008 : decode cL_law 1008 = .ok (.iadd, 1) := by decide +kernel
theorem dL_law_1009 : decode cL_law 1009 = .ok (.iaload, 1) := by decide +kernel
theorem dL_law_1010 : decode cL_law 1010 = .ok (.invokevirtual 134, 3) := by decide +kernel
theorem dL_law_1013 : decode cL_law 1013 = .ok (.aload_n 2, 1) := by decide +kernel
theorem dL_law_1014 : decode cL_law 1014 = .ok (.aload_n 0, 1) := by decide +kernel
theorem dL_law_1015 : decode cL_law 1015 = .ok (.iload_n 3, 1) := by decide +kernel
theorem dL_law_1016 : decode cL_law 1016 = .ok (.iconst 1, 1) := by decide +kernel
theorem dL_law_1017 : decode cL_law 1017 = .ok (.iadd, 1) := by decide +kernel
theorem dL_law_1018 : decode cL_law 1018 = .ok (.iaload, 1) := by decide +kernel
theorem dL_law_1019 : decode cL_law 1019 = .ok (.aload_n 0, 1) := by decide +kernel
theorem dL_law_1020 : decode cL_law 1020 = .ok (.iload_n 3, 1) := by decide +kernel
theorem dL_law_1021 : decode cL_law 1021 = .ok (.iconst 2, 1) := by decide +kernel
theorem dL_law_1022 : decode cL_law 1022 = .ok (.iadd, 1) := by decide +kernel
theorem dL_law_1023 : decode cL_law 1023 = .ok (.iaload, 1) := by decide +kernel
theorem dL_law_1024 : decode cL_law 1024 = .ok (.invokevirtual 137, 3) := by decide +kernel
theorem dL_law_1027 : decode cL_law 1027 = .ok (.if_icmp .eq 221, 3) := by decide +kernel
theorem dL_law_1030 : decode cL_law 1030 = .ok (.iconst 0, 1) := by decide +kernel
theorem dL_law_1031 : decode cL_law 1031 = .ok (.ireturn, 1) := by decide +kernel
theorem dL_law_1032 : decode cL_law 1032 = .ok (.aload_n 1, 1) := by decide +kernel
theorem dL_law_1033 : decode cL_law 1033 = .ok (.aload_n 0, 1) := by decide +kernel
theorem dL_law_1034 : decode cL_law 1034 = .ok (.iload_n 3, 1) := by decide +kernel
theorem dL_law_1035 : decode cL_law 1035 = .ok (.iconst 1, 1) := by decide +kernel
theorem dL_law_1036 : decode cL_law 1036 = .ok (.iadd, 1) := by decide +kernel
theorem dL_law_1037 : decode cL_law 1037 = .ok (.iaload, 1) := by decide +kernel
theorem dL_law_1038 : decode cL_law 1038 = .ok (.invokevirtual 138, 3) := by decide +kernel
theorem dL_law_1041 : decode cL_law 1041 = .ok (.aload_n 2, 1) := by decide +kernel
theorem dL_law_1042 : decode cL_law 1042 = .ok (.aload_n 0, 1) := by decide +kernel
theorem dL_law_1043 : decode cL_law 1043 = .ok (.iload_n 3, 1) := by decide +kernel
theorem dL_law_1044 : decode cL_law 1044 = .ok (.iconst 1, 1) := by decide +kernel
theorem dL_law_1045 : decode cL_law 1045 = .ok (.iadd, 1) := by decide +kernel
theorem dL_law_1046 : decode cL_law 1046 = .ok (.iaload, 1) := by decide +kernel
theorem dL_law_1047 : decode cL_law 1047 = .ok (.invokevirtual 141, 3) := by decide +kernel
theorem dL_law_1050 : decode cL_law 1050 = .ok (.if_icmp .eq 198, 3) := by decide +kernel
theorem dL_law_1053 : decode cL_law 1053 = .ok (.iconst 0, 1) := by decide +kernel
theorem dL_law_1054 : decode cL_law 1054 = .ok (.ireturn, 1) := by decide +kernel
theorem dL_law_1055 : decode cL_law 1055 = .ok (.aload_n 1, 1) := by decide +kernel
theorem dL_law_1056 : decode cL_law 1056 = .ok (.aload_n 0, 1) := by decide +kernel
theorem dL_law_1057 : decode cL_law 1057 = .ok (.iload_n 3, 1) := by decide +kernel
theorem dL_law_1058 : decode cL_law 1058 = .ok (.iconst 1, 1) := by decide +kernel
theorem dL_law_1059 : decode cL_law 1059 = .ok (.iadd, 1) := by decide +kernel
theorem dL_law_1060 : decode cL_law 1060 = .ok (.iaload, 1) := by decide +kernel
theorem dL_law_1061 : decode cL_law 1061 = .ok (.invokevirtual 142, 3) := by decide +kernel
theorem dL_law_1064 : decode cL_law 1064 = .ok (.aload_n 2, 1) := by decide +kernel
theorem dL_law_1065 : decode cL_law 1065 = .ok (.aload_n 0, 1) := by decide +kernel
theorem dL_law_1066 : decode cL_law 1066 = .ok (.iload_n 3, 1) := by decide +kernel
theorem dL_law_1067 : decode cL_law 1067 = .ok (.iconst 1, 1) := by decide +kernel
theorem dL_law_1068 : decode cL_law 1068 = .ok (.iadd, 1) := by decide +kernel
theorem dL_law_1069 : decode cL_law 1069 = .ok (.iaload, 1) := by decide +kernel
theorem dL_law_1070 : decode cL_law 1070 = .ok (.invokevirtual 145, 3) := by decide +kernel
theorem dL_law_1073 : decode cL_law 1073 = .ok (.if_icmp .eq 175, 3) := by decide +kernel
theorem dL_law_1076 : decode cL_law 1076 = .ok (.iconst 0, 1) := by decide +kernel
theorem dL_law_1077 : decode cL_law 1077 = .ok (.ireturn, 1) := by decide +kernel
theorem dL_law_1078 : decode cL_law 1078 = .ok (.aload_n 1, 1) := by decide +kernel
theorem dL_law_1079 : decode cL_law 1079 = .ok (.aload_n 0, 1) := by decide +kernel
theorem dL_law_1080 : decode cL_law 1080 = .ok (.iload_n 3, 1) := by decide +kernel
theorem dL_law_1081 : decode cL_law 1081 = .ok (.iconst 1, 1) := by decide +kernel
theorem dL_law_1082 : decode cL_law 1082 = .ok (.iadd, 1) := by decide +kernel
theorem dL_law_1083 : decode cL_law 1083 = .ok (.iaload, 1) := by decide +kernel
theorem dL_law_1084 : decode cL_law 1084 = .ok (.invokevirtual 146, 3) := by decide +kernel
theorem dL_law_1087 : decode cL_law 1087 = .ok (.aload_n 2, 1) := by decide +kernel
theorem dL_law_1088 : decode cL_law 1088 = .ok (.aload_n 0, 1) := by decide +kernel
theorem dL_law_1089 : decode cL_law 1089 = .ok (.iload_n 3, 1) := by decide +kernel
theorem dL_law_1090 : decode cL_law 1090 = .ok (.iconst 1, 1) := by decide +kernel
theorem dL_law_1091 : decode cL_law 1091 = .ok (.iadd, 1) := by decide +kernel
theorem dL_law_1092 : decode cL_law 1092 = .ok (.iaload, 1) := by decide +kernel
theorem dL_law_1093 : decode cL_law 1093 = .ok (.invokevirtual 149, 3) := by decide +kernel
theorem dL_law_1096 : decode cL_law 1096 = .ok (.if_icmp .eq 152, 3) := by decide +kernel
theorem dL_law_1099 : decode cL_law 1099 = .ok (.iconst 0, 1) := by decide +kernel
theorem dL_law_1100 : decode cL_law 1100 = .ok (.ireturn, 1) := by decide +kernel
theorem dL_law_1101 : decode cL_law 1101 = .ok (.aload_n 1, 1) := by decide +kernel
theorem dL_law_1102 : decode cL_law 1102 = .ok (.aload_n 0, 1) := by decide +kernel
theorem dL_law_1103 : decode cL_law 1103 = .ok (.iload_n 3, 1) := by decide +kernel
theorem dL_law_1104 : decode cL_law 1104 = .ok (.iconst 1, 1) := by decide +kernel
theorem dL_law_1105 : decode cL_law 1105 = .ok (.iadd, 1) := by decide +kernel
theorem dL_law_1106 : decode cL_law 1106 = .ok (.iaload, 1) := by decide +kernel
theorem dL_law_1107 : decode cL_law 1107 = .ok (.aload_n 0, 1) := by decide +kernel
theorem dL_law_1108 : decode cL_law 1108 = .ok (.iload_n 3, 1) := by decide +kernel
theorem dL_law_1109 : decode cL_law 1109 = .ok (.iconst 2, 1) := by decide +kernel
theorem dL_law_1110 : decode cL_law 1110 = .ok (.iadd, 1) := by decide +kernel
theorem dL_law_1111 : decode cL_law 1111 = .ok (.iaload, 1) := by decide +kernel
theorem dL_law_1112 : decode cL_law 1112 = .ok (.invokevirtual 150, 3) := by decide +kernel
theorem dL_law_1115 : decode cL_law 1115 = .ok (.aload_n 2, 1) := by decide +kernel
theorem dL_law_1116 : decode cL_law 1116 = .ok (.aload_n 0, 1) := by decide +kernel
theorem dL_law_1117 : decode cL_law 1117 = .ok (.iload_n 3, 1) := by decide +kernel
theorem dL_law_1118 : decode cL_law 1118 = .ok (.iconst 1, 1) := by decide +kernel
theorem dL_law_1119 : decode cL_law 1119 = .ok (.iadd, 1) := by decide +kernel
theorem dL_law_1120 : decode cL_law 1120 = .ok (.iaload, 1) := by decide +kernel
theorem dL_law_1121 : decode cL_law 1121 = .ok (.aload_n 0, 1) := by decide +kernel
theorem dL_law_1122 : decode cL_law 1122 = .ok (.iload_n 3, 1) := by decide +kernel
theorem dL_law_1123 : decode cL_law 1123 = .ok (.iconst 2, 1) := by decide +kernel
theorem dL_law_1124 : decode cL_law 1124 = .ok (.iadd, 1) := by decide +kernel
theorem dL_law_1125 : decode cL_law 1125 = .ok (.iaload, 1) := by decide +kernel
theorem dL_law_1126 : decode cL_law 1126 = .ok (.invokevirtual 153, 3) := by decide +kernel
theorem dL_law_1129 : decode cL_law 1129 = .ok (.if_icmp .eq 119, 3) := by decide +kernel
theorem dL_law_1132 : decode cL_law 1132 = .ok (.iconst 0, 1) := by decide +kernel
theorem dL_law_1133 : decode cL_law 1133 = .ok (.ireturn, 1) := by decide +kernel
theorem dL_law_1134 : decode cL_law 1134 = .ok (.aload_n 1, 1) := by decide +kernel
theorem dL_law_1135 : decode cL_law 1135 = .ok (.invokevirtual 154, 3) := by decide +kernel
theorem dL_law_1138 : decode cL_law 1138 = .ok (.aload_n 2, 1) := by decide +kernel
theorem dL_law_1139 : decode cL_law 1139 = .ok (.invokevirtual 157, 3) := by decide +kernel
theorem dL_law_1142 : decode cL_law 1142 = .ok (.if_icmp .eq 106, 3) := by decide +kernel
theorem dL_law_1145 : decode cL_law 1145 = .ok (.iconst 0, 1) := by decide +kernel
theorem dL_law_1146 : decode cL_law 1146 = .ok (.ireturn, 1) := by decide +kernel
theorem dL_law_1147 : decode cL_law 1147 = .ok (.aload_n 1, 1) := by decide +kernel
theorem dL_law_1148 : decode cL_law 1148 = .ok (.invokevirtual 158, 3) := by decide +kernel
theorem dL_law_1151 : decode cL_law 1151 = .ok (.aload_n 2, 1) := by decide +kernel
theorem dL_law_1152 : decode cL_law 1152 = .ok (.invokevirtual 162, 3) := by decide +kernel
theorem dL_law_1155 : decode cL_law 1155 = .ok (.lcmp, 1) := by decide +kernel
theorem dL_law_1156 : decode cL_law 1156 = .ok (.ifCond .eq 92, 3) := by decide +kernel
theorem dL_law_1159 : decode cL_law 1159 = .ok (.iconst 0, 1) := by decide +kernel
theorem dL_law_1160 : decode cL_law 1160 = .ok (.ireturn, 1) := by decide +kernel
theorem dL_law_1161 : decode cL_law 1161 = .ok (.aload_n 1, 1) := by decide +kernel
theorem dL_law_1162 : decode cL_law 1162 = .ok (.invokevirtual 163, 3) := by decide +kernel
theorem dL_law_1165 : decode cL_law 1165 = .ok (.aload_n 2, 1) := by decide +kernel
theorem dL_law_1166 : decode cL_law 1166 = .ok (.invokevirtual 166, 3) := by decide +kernel
theorem dL_law_1169 : decode cL_law 1169 = .ok (.lcmp, 1) := by decide +kernel
theorem dL_law_1170 : decode cL_law 1170 = .ok (.ifCond .eq 78, 3) := by decide +kernel
theorem dL_law_1173 : decode cL_law 1173 = .ok (.iconst 0, 1) := by decide +kernel
theorem dL_law_1174 : decode cL_law 1174 = .ok (.ireturn, 1) := by decide +kernel
theorem dL_law_1175 : decode cL_law 1175 = .ok (.aload_n 1, 1) := by decide +kernel
theorem dL_law_1176 : decode cL_law 1176 = .ok (.aload_n 0, 1) := by decide +kernel
theorem dL_law_1177 : decode cL_law 1177 = .ok (.iload_n 3, 1) := by decide +kernel
theorem dL_law_1178 : decode cL_law 1178 = .ok (.iconst 1, 1) := by decide +kernel
theorem dL_law_1179 : decode cL_law 1179 = .ok (.iadd, 1) := by decide +kernel
theorem dL_law_1180 : decode cL_law 1180 = .ok (.iaload, 1) := by decide +kernel
theorem dL_law_1181 : decode cL_law 1181 = .ok (.invokevirtual 167, 3) := by decide +kernel
theorem dL_law_1184 : decode cL_law 1184 = .ok (.aload_n 2, 1) := by decide +kernel
theorem dL_law_1185 : decode cL_law 1185 = .ok (.aload_n 0, 1) := by decide +kernel
theorem dL_law_1186 : decode cL_law 1186 = .ok (.iload_n 3, 1) := by decide +kernel
theorem dL_law_1187 : decode cL_law 1187 = .ok (.iconst 1, 1) := by decide +kernel
theorem dL_law_1188 : decode cL_law 1188 = .ok (.iadd, 1) := by decide +kernel
theorem dL_law_1189 : decode cL_law 1189 = .ok (.iaload, 1) := by decide +kernel
theorem dL_law_1190 : decode cL_law 1190 = .ok (.invokevirtual 170, 3) := by decide +kernel
theorem dL_law_1193 : decode cL_law 1193 = .ok (.if_icmp .eq 55, 3) := by decide +kernel
theorem dL_law_1196 : decode cL_law 1196 = .ok (.iconst 0, 1) := by decide +kernel
theorem dL_law_1197 : decode cL_law 1197 = .ok (.ireturn, 1) := by decide +kernel
theorem dL_law_1198 : decode cL_law 1198 = .ok (.aload_n 1, 1) := by decide +kernel
theorem dL_law_1199 : decode cL_law 1199 = .ok (.invokevirtual 171, 3) := by decide +kernel
theorem dL_law_1202 : decode cL_law 1202 = .ok (.aload_n 2, 1) := by decide +kernel
theorem dL_law_1203 : decode cL_law 1203 = .ok (.invokevirtual 174, 3) := by decide +kernel
theorem dL_law_1206 : decode cL_law 1206 = .ok (.if_icmp .eq 42, 3) := by decide +kernel
theorem dL_law_1209 : decode cL_law 1209 = .ok (.iconst 0, 1) := by decide +kernel
theorem dL_law_1210 : decode cL_law 1210 = .ok (.ireturn, 1) := by decide +kernel
theorem dL_law_1211 : decode cL_law 1211 = .ok (.aload_n 1, 1) := by decide +kernel
theorem dL_law_1212 : decode cL_law 1212 = .ok (.aload_n 0, 1) := by decide +kernel
theorem dL_law_1213 : decode cL_law 1213 = .ok (.iload_n 3, 1) := by decide +kernel
theorem dL_law_1214 : decode cL_law 1214 = .ok (.iconst 1, 1) := by decide +kernel
theorem dL_law_1215 : decode cL_law 1215 = .ok (.iadd, 1) := by decide +kernel
theorem dL_law_1216 : decode cL_law 1216 = .ok (.iaload, 1) := by decide +kernel
theorem dL_law_1217 : decode cL_law 1217 = .ok (.invokevirtual 175, 3) := by decide +kernel
theorem dL_law_1220 : decode cL_law 1220 = .ok (.aload_n 2, 1) := by decide +kernel
theorem dL_law_1221 : decode cL_law 1221 = .ok (.aload_n 0, 1) := by decide +kernel
theorem dL_law_1222 : decode cL_law 1222 = .ok (.iload_n 3, 1) := by decide +kernel
theorem dL_law_1223 : decode cL_law 1223 = .ok (.iconst 1, 1) := by decide +kernel
theorem dL_law_1224 : decode cL_law 1224 = .ok (.iadd, 1) := by decide +kernel
theorem dL_law_1225 : decode cL_law 1225 = .ok (.iaload, 1) := by decide +kernel
theorem dL_law_1226 : decode cL_law 1226 = .ok (.invokevirtual 178, 3) := by decide +kernel
theorem dL_law_1229 : decode cL_law 1229 = .ok (.if_icmp .eq 19, 3) := by decide +kernel
theorem dL_law_1232 : decode cL_law 1232 = .ok (.iconst 0, 1) := by decide +kernel
theorem dL_law_1233 : decode cL_law 1233 = .ok (.ireturn, 1) := by decide +kernel
theorem dL_law_1234 : decode cL_law 1234 = .ok (.aload_n 1, 1) := by decide +kernel
theorem dL_law_1235 : decode cL_law 1235 = .ok (.invokevirtual 179, 3) := by decide +kernel
theorem dL_law_1238 : decode cL_law 1238 = .ok (.aload_n 2, 1) := by decide +kernel
theorem dL_law_1239 : decode cL_law 1239 = .ok (.invokevirtual 182, 3) := by decide +kernel
theorem dL_law_1242 : decode cL_law 1242 = .ok (.lcmp, 1) := by decide +kernel
theorem dL_law_1243 : decode cL_law 1243 = .ok (.ifCond .eq 5, 3) := by decide +kernel
theorem dL_law_1246 : decode cL_law 1246 = .ok (.iconst 0, 1) := by decide +kernel
theorem dL_law_1247 : decode cL_law 1247 = .ok (.ireturn, 1) := by decide +kernel
theorem dL_law_1248 : decode cL_law 1248 = .ok (.iinc 3 6, 3) := by decide +kernel
theorem dL_law_1251 : decode cL_law 1251 = .ok (.goto (-1233), 3) := by decide +kernel
theorem dL_law_1254 : decode cL_law 1254 = .ok (.iconst 1, 1) := by decide +kernel
theorem dL_law_1255 : decode cL_law 1255 = .ok (.ireturn, 1) := by decide +kernel
end
section
def wA : List Cond := lw_tbl.filter goodWord
def isNest : Cond → Bool
  | .methodLinkNest _ _ _ _ => true
  | .fieldLinkNest _ _ _ _ _ _ => true
  | _ => false
def wN : List Cond := lw_tbl.filter isNest
theorem wA_good {w : Cond} (h : w ∈ wA) : w ∈ wA ∧ ((w.onTables && w.keeps) = true ∨ ∃ ty, w = .arrayClass ty) := ⟨h, good_of_word (List.mem_filter.mp h).2⟩
theorem wA_in {w : Cond} (h : w ∈ wA) : w ∈ lw_tbl := (List.mem_filter.mp h).1
theorem wN_in {w : Cond} (h : w ∈ wN) : w ∈ lw_tbl := (List.mem_filter.mp h).1
theorem wG {y : MethodName} {c : ByteArray} {n : Nat} {r : Option FieldType} (h : Cond.code y c n r ∈ wA) : GoodIn wA (Cond.code y c n r :: wA) := fun w hw => by
  rcases List.mem_cons.mp hw with e | e
  · rw [e]; exact wA_good h
  · exact wA_good e
theorem tA (i : Nat) {w : Cond} (h : tables_1[i]? = some w) (hg : goodWord w = true) : w ∈ wA := List.mem_filter.mpr ⟨List.mem_append_right _ (List.mem_of_getElem? h), hg⟩
theorem tN (i : Nat) {w : Cond} (h : tables_1[i]? = some w) (hg : isNest w = true) : w ∈ wN := List.mem_filter.mpr ⟨List.mem_append_right _ (List.mem_of_getElem? h), hg⟩
theorem tAp (i : Nat) {C : String} {x y : MethodName} (h : (k2_sels lw_privs)[i]? = some (Cond.selects C x y)) : Cond.selects C x y ∈ wA := List.mem_filter.mpr ⟨List.mem_append_left _ (List.mem_of_getElem? h), rfl⟩
theorem wMem (ws : List Cond) (ps : List Nat) (h : ws = ps.filterMap (fun i => tables_1[i]?)) (hg : ws.all goodWord = true) : ∀ w ∈ ws, w ∈ wA := by
  intro w hw
  have hg1 := List.all_eq_true.mp hg w hw
  rw [h] at hw
  obtain ⟨i, -, hi⟩ := List.mem_filterMap.mp hw
  exact tA i hi hg1
/-- what the tables say of nest mates, at a state -/
def gNs (U : State) : Prop := ∀ w ∈ wN, va_Nw w U
theorem gNs_warm {s U : State} (hW : s.WarmedH U.vm) (h : gNs s) : gNs U := by
  intro w hw
  have h1 := h w hw
  have h2 := (List.mem_filter.mp hw).2
  cases w <;> first | (exact va_Nw.warmF hW h1) | (exact va_Nw.warmM hW h1) | (exact absurd h2 (by simp [isNest]))
theorem gNs_vm {u U : State} (hvm : u.vm = U.vm) (h : gNs u) : gNs U := by
  intro w hw
  have h1 := h w hw
  have h2 := (List.mem_filter.mp hw).2
  cases w <;> first | (exact va_Nw.same rfl hvm h1) | (exact absurd h2 (by simp [isNest]))
set_option maxRecDepth 100000 in
theorem lA0 : ∀ w ∈ u_ws RX0 TX0 9, w ∈ wA := wMem _ [130, 132, 134, 136, 138, 140, 142, 144, 146] (by decide +kernel) (by decide +kernel)
set_option maxRecDepth 100000 in
theorem lA1 : ∀ w ∈ u_ws RX1 TX1 3, w ∈ wA := wMem _ [106, 108, 110] (by decide +kernel) (by decide +kernel)
set_option maxRecDepth 100000 in
theorem lA2 : ∀ w ∈ u_ws RX2 TX2 2, w ∈ wA := wMem _ [172, 174] (by decide +kernel) (by decide +kernel)
set_option maxRecDepth 100000 in
theorem lA3 : ∀ w ∈ u_ws RX3 TX3 7, w ∈ wA := wMem _ [78, 80, 82, 84, 86, 88, 90] (by decide +kernel) (by decide +kernel)
set_option maxRecDepth 100000 in
theorem lA4 : ∀ w ∈ u_ws RX4 TX4 2, w ∈ wA := wMem _ [159, 161] (by decide +kernel) (by decide +kernel)
set_option maxRecDepth 100000 in
theorem lA5 : ∀ w ∈ u_ws RX5 TX5 4, w ∈ wA := wMem _ [35, 37, 39, 41] (by decide +kernel) (by decide +kernel)
set_option maxRecDepth 100000 in
theorem lA6 : ∀ w ∈ u_ws RX6 TX6 2, w ∈ wA := wMem _ [192, 194] (by decide +kernel) (by decide +kernel)
set_option maxRecDepth 100000 in
theorem lA7 : ∀ w ∈ u_ws RX7 TX7 12, w ∈ wA := wMem _ [210, 212, 214, 216, 218, 220, 222, 224, 226, 228, 230, 232] (by decide +kernel) (by decide +kernel)
set_option maxRecDepth 100000 in
theorem lA8 : ∀ w ∈ u_ws RX8 TX8 30, w ∈ wA := wMem _ [790, 792, 794, 796, 798, 800, 802, 804, 806, 808, 810, 812, 814, 816, 818, 820, 822, 824, 826, 828, 830, 832, 834, 836, 838, 840, 842, 844, 846, 848] (by decide +kernel) (by decide +kernel)
set_option maxRecDepth 100000 in
theorem fk_X7_11 : Cond.fieldLink RX7 11 "ThirdDay" "rows" "[LThirdDay$Row;" ∈ wA := tA 198 (by decide +kernel) rfl
set_option maxRecDepth 100000 in
theorem fk_X7_15 : Cond.fieldLink RX7 15 "ThirdDay" "texts" "[LThirdDay$Row;" ∈ wA := tA 199 (by decide +kernel) rfl
set_option maxRecDepth 100000 in
theorem fk_X7_21 : Cond.fieldLink RX7 21 "ThirdDay" "reader" "LThirdDay$Reader;" ∈ wA := tA 200 (by decide +kernel) rfl
set_option maxRecDepth 100000 in
theorem fk_X7_28 : Cond.fieldLink RX7 28 "ThirdDay" "court" "LThirdDay$Court;" ∈ wA := tA 201 (by decide +kernel) rfl
set_option maxRecDepth 100000 in
theorem fk_X7_34 : Cond.fieldLink RX7 34 "ThirdDay" "kept" "[LThirdDay$Deeds;" ∈ wA := tA 202 (by decide +kernel) rfl
set_option maxRecDepth 100000 in
theorem fk_X7_41 : Cond.fieldLink RX7 41 "ThirdDay" "orders" "LThirdDay$Orders;" ∈ wA := tA 203 (by decide +kernel) rfl
set_option maxRecDepth 100000 in
theorem fk_X7_48 : Cond.fieldLink RX7 48 "ThirdDay" "turns" "LThirdDay$Duel;" ∈ wA := tA 204 (by decide +kernel) rfl
set_option maxRecDepth 100000 in
theorem fk_X7_52 : Cond.fieldLink RX7 52 "ThirdDay" "findingCounts" "[I" ∈ wA := tA 205 (by decide +kernel) rfl
set_option maxRecDepth 100000 in
theorem fk_X7_56 : Cond.fieldLink RX7 56 "ThirdDay" "lowerTold" "J" ∈ wA := tA 209 (by decide +kernel) rfl
set_option maxRecDepth 100000 in
theorem fk_X7_72 : Cond.fieldLinkNest RX7 72 "ThirdDay$Row" "places" "[I" "ThirdDay" ∈ wN := tN 185 (by decide +kernel) rfl
set_option maxRecDepth 100000 in
theorem fk_X7_75 : Cond.fieldLink RX7 75 "ThirdDay" "told" "I" ∈ wA := tA 207 (by decide +kernel) rfl
set_option maxRecDepth 100000 in
theorem fk_X7_83 : Cond.fieldLinkNest RX7 83 "ThirdDay$Row" "size" "I" "ThirdDay" ∈ wN := tN 190 (by decide +kernel) rfl
set_option maxRecDepth 100000 in
theorem fk_X7_120 : Cond.fieldLinkNest RX7 120 "ThirdDay$Deeds" "size" "I" "ThirdDay" ∈ wN := tN 105 (by decide +kernel) rfl
set_option maxRecDepth 100000 in
theorem fk_X7_121 : Cond.fieldLinkNest RX7 121 "ThirdDay$Court" "size" "I" "ThirdDay" ∈ wN := tN 121 (by decide +kernel) rfl
set_option maxRecDepth 100000 in
theorem fk_X7_126 : Cond.fieldLinkNest RX7 126 "ThirdDay$Court" "men" "[LThirdDay$Man;" "ThirdDay" ∈ wN := tN 115 (by decide +kernel) rfl
set_option maxRecDepth 100000 in
theorem fk_X7_151 : Cond.fieldLinkNest RX7 151 "ThirdDay$Court" "heat" "I" "ThirdDay" ∈ wN := tN 129 (by decide +kernel) rfl
set_option maxRecDepth 100000 in
theorem fk_X7_166 : Cond.fieldLinkNest RX7 166 "ThirdDay$Court" "deeds" "LThirdDay$Deeds;" "ThirdDay" ∈ wN := tN 118 (by decide +kernel) rfl
set_option maxRecDepth 100000 in
theorem fk_X7_177 : Cond.fieldLinkNest RX7 177 "ThirdDay$Man" "salve" "I" "ThirdDay" ∈ wN := tN 71 (by decide +kernel) rfl
set_option maxRecDepth 100000 in
theorem fk_X7_183 : Cond.fieldLinkNest RX7 183 "ThirdDay$Man" "wronged" "Z" "ThirdDay" ∈ wN := tN 77 (by decide +kernel) rfl
set_option maxRecDepth 100000 in
theorem fk_X7_187 : Cond.fieldLinkNest RX7 187 "ThirdDay$Man" "verdict" "I" "ThirdDay" ∈ wN := tN 74 (by decide +kernel) rfl
set_option maxRecDepth 100000 in
theorem fk_X7_214 : Cond.fieldLinkNest RX7 214 "ThirdDay$Man" "guilt" "I" "ThirdDay" ∈ wN := tN 63 (by decide +kernel) rfl
set_option maxRecDepth 100000 in
theorem fk_X7_268 : Cond.fieldLinkNest RX7 268 "ThirdDay$Man" "hand" "I" "ThirdDay" ∈ wN := tN 68 (by decide +kernel) rfl
set_option maxRecDepth 100000 in
theorem fk_X7_275 : Cond.fieldLinkNest RX7 275 "ThirdDay$Man" "kind" "I" "ThirdDay" ∈ wN := tN 60 (by decide +kernel) rfl
set_option maxRecDepth 100000 in
theorem fk_X7_308 : Cond.fieldLink RX7 308 "ThirdDay" "upperTold" "J" ∈ wA := tA 208 (by decide +kernel) rfl
set_option maxRecDepth 100000 in
theorem fk_X7_327 : Cond.fieldLink RX7 327 "ThirdDay" "latestFinding" "I" ∈ wA := tA 206 (by decide +kernel) rfl
set_option maxRecDepth 100000 in
theorem fk_X0_11 : Cond.fieldLink RX0 11 "ThirdDay$Court" "men" "[LThirdDay$Man;" ∈ wA := tA 113 (by decide +kernel) rfl
set_option maxRecDepth 100000 in
theorem fk_X0_18 : Cond.fieldLink RX0 18 "ThirdDay$Court" "supposed" "LThirdDay$Man;" ∈ wA := tA 116 (by decide +kernel) rfl
set_option maxRecDepth 100000 in
theorem fk_X0_27 : Cond.fieldLink RX0 27 "ThirdDay$Court" "deeds" "LThirdDay$Deeds;" ∈ wA := tA 117 (by decide +kernel) rfl
set_option maxRecDepth 100000 in
theorem fk_X0_31 : Cond.fieldLink RX0 31 "ThirdDay$Court" "heat" "I" ∈ wA := tA 126 (by decide +kernel) rfl
set_option maxRecDepth 100000 in
theorem fk_X0_35 : Cond.fieldLinkNest RX0 35 "ThirdDay$Reader" "numbers" "[I" "ThirdDay" ∈ wN := tN 30 (by decide +kernel) rfl
set_option maxRecDepth 100000 in
theorem fk_X0_41 : Cond.fieldLink RX0 41 "ThirdDay$Court" "pounds" "I" ∈ wA := tA 122 (by decide +kernel) rfl
set_option maxRecDepth 100000 in
theorem fk_X0_44 : Cond.fieldLink RX0 44 "ThirdDay$Court" "mercy" "I" ∈ wA := tA 123 (by decide +kernel) rfl
set_option maxRecDepth 100000 in
theorem fk_X0_47 : Cond.fieldLink RX0 47 "ThirdDay$Court" "heals" "I" ∈ wA := tA 124 (by decide +kernel) rfl
set_option maxRecDepth 100000 in
theorem fk_X0_50 : Cond.fieldLink RX0 50 "ThirdDay$Court" "king" "I" ∈ wA := tA 125 (by decide +kernel) rfl
set_option maxRecDepth 100000 in
theorem fk_X0_53 : Cond.fieldLinkNest RX0 53 "ThirdDay$Reader" "men" "I" "ThirdDay" ∈ wN := tN 33 (by decide +kernel) rfl
set_option maxRecDepth 100000 in
theorem fk_X0_55 : Cond.fieldLink RX0 55 "ThirdDay$Court" "size" "I" ∈ wA := tA 120 (by decide +kernel) rfl
set_option maxRecDepth 100000 in
theorem fk_X0_62 : Cond.fieldLinkNest RX0 62 "ThirdDay$Deeds" "size" "I" "ThirdDay" ∈ wN := tN 104 (by decide +kernel) rfl
set_option maxRecDepth 100000 in
theorem fk_X0_66 : Cond.fieldLinkNest RX0 66 "ThirdDay$Man" "kind" "I" "ThirdDay" ∈ wN := tN 59 (by decide +kernel) rfl
set_option maxRecDepth 100000 in
theorem fk_X0_69 : Cond.fieldLinkNest RX0 69 "ThirdDay$Man" "guilt" "I" "ThirdDay" ∈ wN := tN 62 (by decide +kernel) rfl
set_option maxRecDepth 100000 in
theorem fk_X0_72 : Cond.fieldLinkNest RX0 72 "ThirdDay$Man" "belief" "I" "ThirdDay" ∈ wN := tN 65 (by decide +kernel) rfl
set_option maxRecDepth 100000 in
theorem fk_X0_90 : Cond.fieldLinkNest RX0 90 "ThirdDay$Man" "salve" "I" "ThirdDay" ∈ wN := tN 70 (by decide +kernel) rfl
set_option maxRecDepth 100000 in
theorem fk_X0_93 : Cond.fieldLinkNest RX0 93 "ThirdDay$Man" "verdict" "I" "ThirdDay" ∈ wN := tN 73 (by decide +kernel) rfl
set_option maxRecDepth 100000 in
theorem fk_X0_106 : Cond.fieldLinkNest RX0 106 "ThirdDay$Deeds" "whats" "[I" "ThirdDay" ∈ wN := tN 100 (by decide +kernel) rfl
set_option maxRecDepth 100000 in
theorem fk_X0_109 : Cond.fieldLinkNest RX0 109 "ThirdDay$Deeds" "hows" "[I" "ThirdDay" ∈ wN := tN 102 (by decide +kernel) rfl
set_option maxRecDepth 100000 in
theorem fk_X0_121 : Cond.fieldLinkNest RX0 121 "ThirdDay$Man" "wronged" "Z" "ThirdDay" ∈ wN := tN 76 (by decide +kernel) rfl
set_option maxRecDepth 100000 in
theorem fk_X0_148 : Cond.fieldLinkNest RX0 148 "ThirdDay$Man" "hand" "I" "ThirdDay" ∈ wN := tN 67 (by decide +kernel) rfl
set_option maxRecDepth 100000 in
theorem fk_X0_155 : Cond.fieldLinkNest RX0 155 "ThirdDay$Row" "size" "I" "ThirdDay" ∈ wN := tN 191 (by decide +kernel) rfl
set_option maxRecDepth 100000 in
theorem fk_X0_158 : Cond.fieldLinkNest RX0 158 "ThirdDay$Row" "places" "[I" "ThirdDay" ∈ wN := tN 186 (by decide +kernel) rfl
set_option maxRecDepth 100000 in
theorem fk_X1_9 : Cond.fieldLink RX1 9 "ThirdDay$Deeds" "whats" "[I" ∈ wA := tA 99 (by decide +kernel) rfl
set_option maxRecDepth 100000 in
theorem fk_X1_15 : Cond.fieldLink RX1 15 "ThirdDay$Deeds" "hows" "[I" ∈ wA := tA 101 (by decide +kernel) rfl
set_option maxRecDepth 100000 in
theorem fk_X1_18 : Cond.fieldLink RX1 18 "ThirdDay$Deeds" "size" "I" ∈ wA := tA 103 (by decide +kernel) rfl
set_option maxRecDepth 100000 in
theorem fk_X2_9 : Cond.fieldLink RX2 9 "ThirdDay$Duel" "worth" "[I" ∈ wA := tA 170 (by decide +kernel) rfl
set_option maxRecDepth 100000 in
theorem fk_X2_15 : Cond.fieldLink RX2 15 "ThirdDay$Duel" "worthAhead" "[I" ∈ wA := tA 171 (by decide +kernel) rfl
set_option maxRecDepth 100000 in
theorem fk_X2_28 : Cond.fieldLinkNest RX2 28 "ThirdDay$Court" "heat" "I" "ThirdDay" ∈ wN := tN 128 (by decide +kernel) rfl
set_option maxRecDepth 100000 in
theorem fk_X3_9 : Cond.fieldLink RX3 9 "ThirdDay$Man" "verdict" "I" ∈ wA := tA 72 (by decide +kernel) rfl
set_option maxRecDepth 100000 in
theorem fk_X3_15 : Cond.fieldLink RX3 15 "ThirdDay$Man" "kind" "I" ∈ wA := tA 58 (by decide +kernel) rfl
set_option maxRecDepth 100000 in
theorem fk_X3_18 : Cond.fieldLink RX3 18 "ThirdDay$Man" "guilt" "I" ∈ wA := tA 61 (by decide +kernel) rfl
set_option maxRecDepth 100000 in
theorem fk_X3_21 : Cond.fieldLink RX3 21 "ThirdDay$Man" "belief" "I" ∈ wA := tA 64 (by decide +kernel) rfl
set_option maxRecDepth 100000 in
theorem fk_X3_24 : Cond.fieldLink RX3 24 "ThirdDay$Man" "hand" "I" ∈ wA := tA 66 (by decide +kernel) rfl
set_option maxRecDepth 100000 in
theorem fk_X3_27 : Cond.fieldLink RX3 27 "ThirdDay$Man" "salve" "I" ∈ wA := tA 69 (by decide +kernel) rfl
set_option maxRecDepth 100000 in
theorem fk_X3_30 : Cond.fieldLink RX3 30 "ThirdDay$Man" "wronged" "Z" ∈ wA := tA 75 (by decide +kernel) rfl
set_option maxRecDepth 100000 in
theorem fk_X4_9 : Cond.fieldLink RX4 9 "ThirdDay$Orders" "path" "[I" ∈ wA := tA 157 (by decide +kernel) rfl
set_option maxRecDepth 100000 in
theorem fk_X4_15 : Cond.fieldLinkNest RX4 15 "ThirdDay$Court" "size" "I" "ThirdDay" ∈ wN := tN 119 (by decide +kernel) rfl
set_option maxRecDepth 100000 in
theorem fk_X4_37 : Cond.fieldLink RX4 37 "ThirdDay$Orders" "fewest" "I" ∈ wA := tA 158 (by decide +kernel) rfl
set_option maxRecDepth 100000 in
theorem fk_X4_43 : Cond.fieldLinkNest RX4 43 "ThirdDay$Court" "heat" "I" "ThirdDay" ∈ wN := tN 127 (by decide +kernel) rfl
set_option maxRecDepth 100000 in
theorem fk_X4_50 : Cond.fieldLinkNest RX4 50 "ThirdDay$Row" "places" "[I" "ThirdDay" ∈ wN := tN 184 (by decide +kernel) rfl
set_option maxRecDepth 100000 in
theorem fk_X4_53 : Cond.fieldLinkNest RX4 53 "ThirdDay$Row" "size" "I" "ThirdDay" ∈ wN := tN 189 (by decide +kernel) rfl
set_option maxRecDepth 100000 in
theorem fk_X4_60 : Cond.fieldLinkNest RX4 60 "ThirdDay$Court" "men" "[LThirdDay$Man;" "ThirdDay" ∈ wN := tN 114 (by decide +kernel) rfl
set_option maxRecDepth 100000 in
theorem fk_X5_11 : Cond.fieldLink RX5 11 "ThirdDay$Reader" "numbers" "[I" ∈ wA := tA 29 (by decide +kernel) rfl
set_option maxRecDepth 100000 in
theorem fk_X5_15 : Cond.fieldLink RX5 15 "ThirdDay$Reader" "taken" "I" ∈ wA := tA 31 (by decide +kernel) rfl
set_option maxRecDepth 100000 in
theorem fk_X5_19 : Cond.fieldLink RX5 19 "ThirdDay$Reader" "men" "I" ∈ wA := tA 32 (by decide +kernel) rfl
set_option maxRecDepth 100000 in
theorem fk_X5_22 : Cond.fieldLink RX5 22 "ThirdDay$Reader" "place" "I" ∈ wA := tA 34 (by decide +kernel) rfl
set_option maxRecDepth 100000 in
theorem fk_X5_33 : Cond.fieldLinkNest RX5 33 "ThirdDay$Row" "size" "I" "ThirdDay" ∈ wN := tN 188 (by decide +kernel) rfl
set_option maxRecDepth 100000 in
theorem fk_X5_41 : Cond.fieldLinkNest RX5 41 "ThirdDay$Row" "places" "[I" "ThirdDay" ∈ wN := tN 183 (by decide +kernel) rfl
set_option maxRecDepth 100000 in
theorem fk_X6_9 : Cond.fieldLink RX6 9 "ThirdDay$Row" "size" "I" ∈ wA := tA 187 (by decide +kernel) rfl
set_option maxRecDepth 100000 in
theorem fk_X6_15 : Cond.fieldLink RX6 15 "ThirdDay$Row" "places" "[I" ∈ wA := tA 182 (by decide +kernel) rfl
set_option maxRecDepth 100000 in
theorem fk_X8_7 : Cond.fieldLink RX8 7 "ThirdDayModel" "row" "[I" ∈ wA := tA 760 (by decide +kernel) rfl
set_option maxRecDepth 100000 in
theorem fk_X8_13 : Cond.fieldLink RX8 13 "ThirdDayModel" "kinds" "[I" ∈ wA := tA 766 (by decide +kernel) rfl
set_option maxRecDepth 100000 in
theorem fk_X8_16 : Cond.fieldLink RX8 16 "ThirdDayModel" "guilts" "[I" ∈ wA := tA 767 (by decide +kernel) rfl
set_option maxRecDepth 100000 in
theorem fk_X8_19 : Cond.fieldLink RX8 19 "ThirdDayModel" "beliefs" "[I" ∈ wA := tA 768 (by decide +kernel) rfl
set_option maxRecDepth 100000 in
theorem fk_X8_22 : Cond.fieldLink RX8 22 "ThirdDayModel" "hands" "[I" ∈ wA := tA 769 (by decide +kernel) rfl
set_option maxRecDepth 100000 in
theorem fk_X8_25 : Cond.fieldLink RX8 25 "ThirdDayModel" "sizes" "[I" ∈ wA := tA 770 (by decide +kernel) rfl
set_option maxRecDepth 100000 in
theorem fk_X8_28 : Cond.fieldLink RX8 28 "ThirdDayModel" "items" "[I" ∈ wA := tA 771 (by decide +kernel) rfl
set_option maxRecDepth 100000 in
theorem fk_X8_31 : Cond.fieldLink RX8 31 "ThirdDayModel" "lengths" "[I" ∈ wA := tA 772 (by decide +kernel) rfl
set_option maxRecDepth 100000 in
theorem fk_X8_34 : Cond.fieldLink RX8 34 "ThirdDayModel" "bytes" "[I" ∈ wA := tA 773 (by decide +kernel) rfl
set_option maxRecDepth 100000 in
theorem fk_X8_37 : Cond.fieldLink RX8 37 "ThirdDayModel" "lower" "J" ∈ wA := tA 776 (by decide +kernel) rfl
set_option maxRecDepth 100000 in
theorem fk_X8_41 : Cond.fieldLink RX8 41 "ThirdDayModel" "findings" "[I" ∈ wA := tA 778 (by decide +kernel) rfl
set_option maxRecDepth 100000 in
theorem fk_X8_44 : Cond.fieldLink RX8 44 "ThirdDayModel" "readCourt" "[I" ∈ wA := tA 782 (by decide +kernel) rfl
set_option maxRecDepth 100000 in
theorem fk_X8_47 : Cond.fieldLink RX8 47 "ThirdDayModel" "readMen" "[I" ∈ wA := tA 783 (by decide +kernel) rfl
set_option maxRecDepth 100000 in
theorem fk_X8_50 : Cond.fieldLink RX8 50 "ThirdDayModel" "line" "[I" ∈ wA := tA 785 (by decide +kernel) rfl
set_option maxRecDepth 100000 in
theorem fk_X8_53 : Cond.fieldLink RX8 53 "ThirdDayModel" "parts" "[I" ∈ wA := tA 787 (by decide +kernel) rfl
set_option maxRecDepth 100000 in
theorem fk_X8_56 : Cond.fieldLink RX8 56 "ThirdDayModel" "fouls" "[I" ∈ wA := tA 788 (by decide +kernel) rfl
set_option maxRecDepth 100000 in
theorem fk_X8_59 : Cond.fieldLink RX8 59 "ThirdDayModel" "before" "[I" ∈ wA := tA 789 (by decide +kernel) rfl
set_option maxRecDepth 100000 in
theorem fk_X8_65 : Cond.fieldLink RX8 65 "ThirdDayModel" "finding" "I" ∈ wA := tA 777 (by decide +kernel) rfl
set_option maxRecDepth 100000 in
theorem fk_X8_69 : Cond.fieldLink RX8 69 "ThirdDayModel" "asked" "I" ∈ wA := tA 774 (by decide +kernel) rfl
set_option maxRecDepth 100000 in
theorem fk_X8_106 : Cond.fieldLink RX8 106 "ThirdDayModel" "from" "I" ∈ wA := tA 779 (by decide +kernel) rfl
set_option maxRecDepth 100000 in
theorem fk_X8_109 : Cond.fieldLink RX8 109 "ThirdDayModel" "place" "I" ∈ wA := tA 780 (by decide +kernel) rfl
set_option maxRecDepth 100000 in
theorem fk_X8_112 : Cond.fieldLink RX8 112 "ThirdDayModel" "end" "I" ∈ wA := tA 781 (by decide +kernel) rfl
set_option maxRecDepth 100000 in
theorem fk_X8_129 : Cond.fieldLink RX8 129 "ThirdDayModel" "readMany" "I" ∈ wA := tA 784 (by decide +kernel) rfl
set_option maxRecDepth 100000 in
theorem fk_X8_145 : Cond.fieldLink RX8 145 "ThirdDayModel" "pounds" "I" ∈ wA := tA 761 (by decide +kernel) rfl
set_option maxRecDepth 100000 in
theorem fk_X8_148 : Cond.fieldLink RX8 148 "ThirdDayModel" "mercy" "I" ∈ wA := tA 762 (by decide +kernel) rfl
set_option maxRecDepth 100000 in
theorem fk_X8_151 : Cond.fieldLink RX8 151 "ThirdDayModel" "heals" "I" ∈ wA := tA 763 (by decide +kernel) rfl
set_option maxRecDepth 100000 in
theorem fk_X8_154 : Cond.fieldLink RX8 154 "ThirdDayModel" "king" "I" ∈ wA := tA 764 (by decide +kernel) rfl
set_option maxRecDepth 100000 in
theorem fk_X8_157 : Cond.fieldLink RX8 157 "ThirdDayModel" "men" "I" ∈ wA := tA 765 (by decide +kernel) rfl
set_option maxRecDepth 100000 in
theorem fk_X8_243 : Cond.fieldLink RX8 243 "ThirdDayModel" "upper" "J" ∈ wA := tA 775 (by decide +kernel) rfl
set_option maxRecDepth 100000 in
theorem fk_X8_250 : Cond.fieldLink RX8 250 "ThirdDayModel" "lineSize" "I" ∈ wA := tA 786 (by decide +kernel) rfl
set_option maxRecDepth 100000 in
theorem mk_X7_20 : Cond.methodLinkNest RX7 20 yX5_init "ThirdDay" ∈ wN := tN 25 (by decide +kernel) rfl
set_option maxRecDepth 100000 in
theorem mk_X7_27 : Cond.methodLink RX7 27 yX0_init ∈ wA := tA 47 (by decide +kernel) rfl
set_option maxRecDepth 100000 in
theorem mk_X7_40 : Cond.methodLinkNest RX7 40 yX4_init "ThirdDay" ∈ wN := tN 153 (by decide +kernel) rfl
set_option maxRecDepth 100000 in
theorem mk_X7_47 : Cond.methodLinkNest RX7 47 yX2_init "ThirdDay" ∈ wN := tN 166 (by decide +kernel) rfl
set_option maxRecDepth 100000 in
theorem mk_X7_60 : Cond.methodLink RX7 60 yX6_init ∈ wA := tA 178 (by decide +kernel) rfl
set_option maxRecDepth 100000 in
theorem mk_X7_63 : Cond.methodLink RX7 63 yX1_init ∈ wA := tA 197 (by decide +kernel) rfl
set_option maxRecDepth 100000 in
theorem mk_X7_64 : Cond.methodLink RX7 64 yX7_laidOut ∈ wA := tA 239 (by decide +kernel) rfl
set_option maxRecDepth 100000 in
theorem mk_X7_68 : Cond.methodLink RX7 68 yX7_placeRefusal ∈ wA := tA 258 (by decide +kernel) rfl
set_option maxRecDepth 100000 in
theorem mk_X7_79 : Cond.methodLink RX7 79 yX7_missingRefusal ∈ wA := tA 262 (by decide +kernel) rfl
set_option maxRecDepth 100000 in
theorem mk_X7_86 : Cond.methodLink RX7 86 yX7_isOneOf ∈ wA := tA 243 (by decide +kernel) rfl
set_option maxRecDepth 100000 in
theorem mk_X7_90 : Cond.methodLink RX7 90 yX7_found ∈ wA := tA 246 (by decide +kernel) rfl
set_option maxRecDepth 100000 in
theorem mk_X7_94 : Cond.methodLink RX7 94 yX6_isMissing ∈ wA := tA 266 (by decide +kernel) rfl
set_option maxRecDepth 100000 in
theorem mk_X7_98 : Cond.methodLink RX7 98 yX6_hasStretch ∈ wA := tA 282 (by decide +kernel) rfl
set_option maxRecDepth 100000 in
theorem mk_X7_108 : Cond.methodLink RX7 108 yX6_sum ∈ wA := tA 293 (by decide +kernel) rfl
set_option maxRecDepth 100000 in
theorem mk_X7_112 : Cond.methodLink RX7 112 yX5_read ∈ wA := tA 309 (by decide +kernel) rfl
set_option maxRecDepth 100000 in
theorem mk_X7_116 : Cond.methodLink RX7 116 yX0_assemble ∈ wA := tA 340 (by decide +kernel) rfl
set_option maxRecDepth 100000 in
theorem mk_X7_122 : Cond.methodLink RX7 122 yX7_isMan ∈ wA := tA 413 (by decide +kernel) rfl
set_option maxRecDepth 100000 in
theorem mk_X7_130 : Cond.methodLink RX7 130 yX0_detail ∈ wA := tA 417 (by decide +kernel) rfl
set_option maxRecDepth 100000 in
theorem mk_X7_134 : Cond.methodLink RX7 134 yX3_isOf ∈ wA := tA 425 (by decide +kernel) rfl
set_option maxRecDepth 100000 in
theorem mk_X7_139 : Cond.methodLink RX7 139 yX0_heatToSpare ∈ wA := tA 426 (by decide +kernel) rfl
set_option maxRecDepth 100000 in
theorem mk_X7_143 : Cond.methodLink RX7 143 yX0_likeButPlain ∈ wA := tA 430 (by decide +kernel) rfl
set_option maxRecDepth 100000 in
theorem mk_X7_147 : Cond.methodLink RX7 147 yX3_hardness ∈ wA := tA 438 (by decide +kernel) rfl
set_option maxRecDepth 100000 in
theorem mk_X7_160 : Cond.methodLink RX7 160 yX0_absent ∈ wA := tA 440 (by decide +kernel) rfl
set_option maxRecDepth 100000 in
theorem mk_X7_163 : Cond.methodLink RX7 163 yX0_felt ∈ wA := tA 444 (by decide +kernel) rfl
set_option maxRecDepth 100000 in
theorem mk_X7_170 : Cond.methodLink RX7 170 yX1_hasRoomFor ∈ wA := tA 449 (by decide +kernel) rfl
set_option maxRecDepth 100000 in
theorem mk_X7_173 : Cond.methodLink RX7 173 yX0_perform ∈ wA := tA 453 (by decide +kernel) rfl
set_option maxRecDepth 100000 in
theorem mk_X7_180 : Cond.methodLink RX7 180 yX3_isTried ∈ wA := tA 466 (by decide +kernel) rfl
set_option maxRecDepth 100000 in
theorem mk_X7_190 : Cond.methodLink RX7 190 yX0_actAgain ∈ wA := tA 478 (by decide +kernel) rfl
set_option maxRecDepth 100000 in
theorem mk_X7_193 : Cond.methodLink RX7 193 yX7_isKeptPlace ∈ wA := tA 483 (by decide +kernel) rfl
set_option maxRecDepth 100000 in
theorem mk_X7_196 : Cond.methodLink RX7 196 yX1_become ∈ wA := tA 486 (by decide +kernel) rfl
set_option maxRecDepth 100000 in
theorem mk_X7_200 : Cond.methodLink RX7 200 yX0_verdict ∈ wA := tA 498 (by decide +kernel) rfl
set_option maxRecDepth 100000 in
theorem mk_X7_202 : Cond.methodLink RX7 202 yX7_heatRefusal ∈ wA := tA 503 (by decide +kernel) rfl
set_option maxRecDepth 100000 in
theorem mk_X7_205 : Cond.methodLink RX7 205 yX0_guiltyWrongly ∈ wA := tA 507 (by decide +kernel) rfl
set_option maxRecDepth 100000 in
theorem mk_X7_208 : Cond.methodLink RX7 208 yX0_allWrongly ∈ wA := tA 516 (by decide +kernel) rfl
set_option maxRecDepth 100000 in
theorem mk_X7_211 : Cond.methodLink RX7 211 yX0_heatsTelling ∈ wA := tA 528 (by decide +kernel) rfl
set_option maxRecDepth 100000 in
theorem mk_X7_217 : Cond.methodLink RX7 217 yX7_tellFraction ∈ wA := tA 536 (by decide +kernel) rfl
set_option maxRecDepth 100000 in
theorem mk_X7_221 : Cond.methodLink RX7 221 yX7_rowRefusal ∈ wA := tA 547 (by decide +kernel) rfl
set_option maxRecDepth 100000 in
theorem mk_X7_224 : Cond.methodLink RX7 224 yX4_layBest ∈ wA := tA 551 (by decide +kernel) rfl
set_option maxRecDepth 100000 in
theorem mk_X7_228 : Cond.methodLink RX7 228 yX7_orderFinding ∈ wA := tA 579 (by decide +kernel) rfl
set_option maxRecDepth 100000 in
theorem mk_X7_231 : Cond.methodLink RX7 231 yX0_toldClean ∈ wA := tA 584 (by decide +kernel) rfl
set_option maxRecDepth 100000 in
theorem mk_X7_234 : Cond.methodLink RX7 234 yX3_wrongedBy ∈ wA := tA 585 (by decide +kernel) rfl
set_option maxRecDepth 100000 in
theorem mk_X7_237 : Cond.methodLink RX7 237 yX0_heatBehind ∈ wA := tA 586 (by decide +kernel) rfl
set_option maxRecDepth 100000 in
theorem mk_X7_241 : Cond.methodLink RX7 241 yX0_mustBeCleared ∈ wA := tA 591 (by decide +kernel) rfl
set_option maxRecDepth 100000 in
theorem mk_X7_245 : Cond.methodLink RX7 245 yX0_salveNeeded ∈ wA := tA 595 (by decide +kernel) rfl
set_option maxRecDepth 100000 in
theorem mk_X7_248 : Cond.methodLink RX7 248 yX7_trialsRefusal ∈ wA := tA 603 (by decide +kernel) rfl
set_option maxRecDepth 100000 in
theorem mk_X7_251 : Cond.methodLink RX7 251 yX0_heatsFitting ∈ wA := tA 610 (by decide +kernel) rfl
set_option maxRecDepth 100000 in
theorem mk_X7_254 : Cond.methodLink RX7 254 yJ6_bitCount_0f7a4 ∈ wA := tA 616 (by decide +kernel) rfl
set_option maxRecDepth 100000 in
theorem mk_X7_259 : Cond.methodLink RX7 259 yX0_greatestPart ∈ wA := tA 621 (by decide +kernel) rfl
set_option maxRecDepth 100000 in
theorem mk_X7_262 : Cond.methodLink RX7 262 yX7_suppositionRefusal ∈ wA := tA 630 (by decide +kernel) rfl
set_option maxRecDepth 100000 in
theorem mk_X7_265 : Cond.methodLink RX7 265 yX0_likeOf ∈ wA := tA 634 (by decide +kernel) rfl
set_option maxRecDepth 100000 in
theorem mk_X7_271 : Cond.methodLink RX7 271 yX0_wouldTell ∈ wA := tA 635 (by decide +kernel) rfl
set_option maxRecDepth 100000 in
theorem mk_X7_278 : Cond.methodLink RX7 278 yX2_foulAtLast ∈ wA := tA 647 (by decide +kernel) rfl
set_option maxRecDepth 100000 in
theorem mk_X7_282 : Cond.methodLink RX7 282 yX7_chanceRefusal ∈ wA := tA 666 (by decide +kernel) rfl
set_option maxRecDepth 100000 in
theorem mk_X7_285 : Cond.methodLink RX7 285 yX0_cleanChances ∈ wA := tA 670 (by decide +kernel) rfl
set_option maxRecDepth 100000 in
theorem mk_X7_290 : Cond.methodLink RX7 290 yX3_appears ∈ wA := tA 679 (by decide +kernel) rfl
set_option maxRecDepth 100000 in
theorem mk_X7_294 : Cond.methodLink RX7 294 yX0_toldWrongly ∈ wA := tA 685 (by decide +kernel) rfl
set_option maxRecDepth 100000 in
theorem mk_X7_305 : Cond.methodLink RX7 305 yX3_dueByLot ∈ wA := tA 693 (by decide +kernel) rfl
set_option maxRecDepth 100000 in
theorem mk_X7_311 : Cond.methodLink RX7 311 yX0_triedOnes ∈ wA := tA 583 (by decide +kernel) rfl
set_option maxRecDepth 100000 in
theorem mk_X7_314 : Cond.methodLink RX7 314 yX0_allSalve ∈ wA := tA 714 (by decide +kernel) rfl
set_option maxRecDepth 100000 in
theorem mk_X7_317 : Cond.methodLink RX7 317 yX0_ploughmen ∈ wA := tA 718 (by decide +kernel) rfl
set_option maxRecDepth 100000 in
theorem mk_X7_320 : Cond.methodLink RX7 320 yX7_howManyThere ∈ wA := tA 723 (by decide +kernel) rfl
set_option maxRecDepth 100000 in
theorem mk_X7_324 : Cond.methodLink RX7 324 yX7_courtsKept ∈ wA := tA 726 (by decide +kernel) rfl
set_option maxRecDepth 100000 in
theorem mk_X7_334 : Cond.methodLink RX7 334 yX7_count ∈ wA := tA 744 (by decide +kernel) rfl
set_option maxRecDepth 100000 in
theorem mk_X7_337 : Cond.methodLink RX7 337 yX6_digestOnto ∈ wA := tA 745 (by decide +kernel) rfl
set_option maxRecDepth 100000 in
theorem mk_X7_341 : Cond.methodLink RX7 341 yX6_layOut ∈ wA := tA 250 (by decide +kernel) rfl
set_option maxRecDepth 100000 in
theorem mk_X7_344 : Cond.methodLink RX7 344 yX7_pairsFinding ∈ wA := tA 607 (by decide +kernel) rfl
set_option maxRecDepth 100000 in
theorem mk_X7_348 : Cond.methodLink RX7 348 yX7_commonDivisor ∈ wA := tA 540 (by decide +kernel) rfl
set_option maxRecDepth 100000 in
theorem mk_X0_17 : Cond.methodLinkNest RX0 17 yX3_init "ThirdDay" ∈ wN := tN 54 (by decide +kernel) rfl
set_option maxRecDepth 100000 in
theorem mk_X0_24 : Cond.methodLink RX0 24 yX1_init ∈ wA := tA 95 (by decide +kernel) rfl
set_option maxRecDepth 100000 in
theorem mk_X0_58 : Cond.methodLink RX0 58 yX3_become ∈ wA := tA 344 (by decide +kernel) rfl
set_option maxRecDepth 100000 in
theorem mk_X0_63 : Cond.methodLink RX0 63 yX0_actAgain ∈ wA := tA 348 (by decide +kernel) rfl
set_option maxRecDepth 100000 in
theorem mk_X0_75 : Cond.methodLink RX0 75 yX3_hardness ∈ wA := tA 393 (by decide +kernel) rfl
set_option maxRecDepth 100000 in
theorem mk_X0_79 : Cond.methodLink RX0 79 yX0_burn ∈ wA := tA 385 (by decide +kernel) rfl
set_option maxRecDepth 100000 in
theorem mk_X0_83 : Cond.methodLink RX0 83 yX3_appears ∈ wA := tA 373 (by decide +kernel) rfl
set_option maxRecDepth 100000 in
theorem mk_X0_87 : Cond.methodLink RX0 87 yX0_lacking ∈ wA := tA 381 (by decide +kernel) rfl
set_option maxRecDepth 100000 in
theorem mk_X0_96 : Cond.methodLink RX0 96 yX1_add ∈ wA := tA 457 (by decide +kernel) rfl
set_option maxRecDepth 100000 in
theorem mk_X0_100 : Cond.methodLink RX0 100 yX0_act ∈ wA := tA 356 (by decide +kernel) rfl
set_option maxRecDepth 100000 in
theorem mk_X0_103 : Cond.methodLink RX0 103 yX3_forgetDeeds ∈ wA := tA 352 (by decide +kernel) rfl
set_option maxRecDepth 100000 in
theorem mk_X0_112 : Cond.methodLink RX0 112 yX0_keptHeat ∈ wA := tA 360 (by decide +kernel) rfl
set_option maxRecDepth 100000 in
theorem mk_X0_116 : Cond.methodLink RX0 116 yX0_verdict ∈ wA := tA 369 (by decide +kernel) rfl
set_option maxRecDepth 100000 in
theorem mk_X0_118 : Cond.methodLink RX0 118 yX3_wrongedBy ∈ wA := tA 397 (by decide +kernel) rfl
set_option maxRecDepth 100000 in
theorem mk_X0_125 : Cond.methodLink RX0 125 yX0_toldClean ∈ wA := tA 401 (by decide +kernel) rfl
set_option maxRecDepth 100000 in
theorem mk_X0_128 : Cond.methodLink RX0 128 yX0_heatBehind ∈ wA := tA 405 (by decide +kernel) rfl
set_option maxRecDepth 100000 in
theorem mk_X0_141 : Cond.methodLink RX0 141 yX0_felt ∈ wA := tA 389 (by decide +kernel) rfl
set_option maxRecDepth 100000 in
theorem mk_X0_144 : Cond.methodLink RX0 144 yX3_isTried ∈ wA := tA 515 (by decide +kernel) rfl
set_option maxRecDepth 100000 in
theorem mk_X0_151 : Cond.methodLink RX0 151 yX0_likeOf ∈ wA := tA 434 (by decide +kernel) rfl
set_option maxRecDepth 100000 in
theorem mk_X0_161 : Cond.methodLink RX0 161 yX0_wouldWrong ∈ wA := tA 511 (by decide +kernel) rfl
set_option maxRecDepth 100000 in
theorem mk_X0_166 : Cond.methodLink RX0 166 yX0_heatsTelling ∈ wA := tA 615 (by decide +kernel) rfl
set_option maxRecDepth 100000 in
theorem mk_X0_169 : Cond.methodLink RX0 169 yJ6_bitCount_0f7a4 ∈ wA := tA 625 (by decide +kernel) rfl
set_option maxRecDepth 100000 in
theorem mk_X0_174 : Cond.methodLink RX0 174 yX3_isOf ∈ wA := tA 722 (by decide +kernel) rfl
set_option maxRecDepth 100000 in
theorem mk_X1_22 : Cond.methodLink RX1 22 yX1_hasRoomFor ∈ wA := tA 461 (by decide +kernel) rfl
set_option maxRecDepth 100000 in
theorem mk_X2_18 : Cond.methodLink RX2 18 yX0_foulOnes ∈ wA := tA 651 (by decide +kernel) rfl
set_option maxRecDepth 100000 in
theorem mk_X2_24 : Cond.methodLink RX2 24 yX2_chosen ∈ wA := tA 655 (by decide +kernel) rfl
set_option maxRecDepth 100000 in
theorem mk_X2_32 : Cond.methodLink RX2 32 yX0_keptHeat ∈ wA := tA 659 (by decide +kernel) rfl
set_option maxRecDepth 100000 in
theorem mk_X3_34 : Cond.methodLink RX3 34 yX3_isOf ∈ wA := tA 377 (by decide +kernel) rfl
set_option maxRecDepth 100000 in
theorem mk_X3_38 : Cond.methodLink RX3 38 yX3_isTried ∈ wA := tA 697 (by decide +kernel) rfl
set_option maxRecDepth 100000 in
theorem mk_X4_21 : Cond.methodLink RX4 21 yX0_triedOnes ∈ wA := tA 555 (by decide +kernel) rfl
set_option maxRecDepth 100000 in
theorem mk_X4_25 : Cond.methodLink RX4 25 yJ6_bitCount_0f7a4 ∈ wA := tA 559 (by decide +kernel) rfl
set_option maxRecDepth 100000 in
theorem mk_X4_31 : Cond.methodLink RX4 31 yX6_layOut ∈ wA := tA 565 (by decide +kernel) rfl
set_option maxRecDepth 100000 in
theorem mk_X4_40 : Cond.methodLink RX4 40 yX0_toldClean ∈ wA := tA 566 (by decide +kernel) rfl
set_option maxRecDepth 100000 in
theorem mk_X4_46 : Cond.methodLink RX4 46 yX4_goOn ∈ wA := tA 567 (by decide +kernel) rfl
set_option maxRecDepth 100000 in
theorem mk_X4_64 : Cond.methodLink RX4 64 yX0_verdict ∈ wA := tA 572 (by decide +kernel) rfl
set_option maxRecDepth 100000 in
theorem mk_X4_68 : Cond.methodLink RX4 68 yX3_wrongedBy ∈ wA := tA 573 (by decide +kernel) rfl
set_option maxRecDepth 100000 in
theorem mk_X4_74 : Cond.methodLink RX4 74 yX0_heatBehind ∈ wA := tA 574 (by decide +kernel) rfl
set_option maxRecDepth 100000 in
theorem mk_X5_25 : Cond.methodLink RX5 25 yX5_passBlanks ∈ wA := tA 313 (by decide +kernel) rfl
set_option maxRecDepth 100000 in
theorem mk_X5_29 : Cond.methodLink RX5 29 yX5_takeIron ∈ wA := tA 317 (by decide +kernel) rfl
set_option maxRecDepth 100000 in
theorem mk_X5_38 : Cond.methodLink RX5 38 yX5_takeMan ∈ wA := tA 329 (by decide +kernel) rfl
set_option maxRecDepth 100000 in
theorem mk_X5_44 : Cond.methodLink RX5 44 yX5_takeFigure ∈ wA := tA 321 (by decide +kernel) rfl
set_option maxRecDepth 100000 in
theorem mk_X5_48 : Cond.methodLink RX5 48 yX5_kindOf ∈ wA := tA 333 (by decide +kernel) rfl
set_option maxRecDepth 100000 in
theorem mk_X5_52 : Cond.methodLink RX5 52 yX5_take ∈ wA := tA 325 (by decide +kernel) rfl
set_option maxRecDepth 100000 in
theorem mk_L_9 : Cond.methodLink RL 9 yX7_init ∈ wA := tA 15 (by decide +kernel) rfl
set_option maxRecDepth 100000 in
theorem mk_L_12 : Cond.methodLink RL 12 yX8_init ∈ wA := tA 752 (by decide +kernel) rfl
set_option maxRecDepth 100000 in
theorem mk_L_13 : Cond.methodLink RL 13 yX7_row ∈ wA := tA 235 (by decide +kernel) rfl
set_option maxRecDepth 100000 in
theorem mk_L_17 : Cond.methodLink RL 17 yX8_row ∈ wA := tA 851 (by decide +kernel) rfl
set_option maxRecDepth 100000 in
theorem mk_L_18 : Cond.methodLink RL 18 yX7_lay ∈ wA := tA 254 (by decide +kernel) rfl
set_option maxRecDepth 100000 in
theorem mk_L_22 : Cond.methodLink RL 22 yX8_lay ∈ wA := tA 870 (by decide +kernel) rfl
set_option maxRecDepth 100000 in
theorem mk_L_23 : Cond.methodLink RL 23 yX7_at ∈ wA := tA 270 (by decide +kernel) rfl
set_option maxRecDepth 100000 in
theorem mk_L_26 : Cond.methodLink RL 26 yX8_at ∈ wA := tA 882 (by decide +kernel) rfl
set_option maxRecDepth 100000 in
theorem mk_L_27 : Cond.methodLink RL 27 yX7_tear ∈ wA := tA 274 (by decide +kernel) rfl
set_option maxRecDepth 100000 in
theorem mk_L_31 : Cond.methodLink RL 31 yX8_tear ∈ wA := tA 886 (by decide +kernel) rfl
set_option maxRecDepth 100000 in
theorem mk_L_32 : Cond.methodLink RL 32 yX7_copy ∈ wA := tA 278 (by decide +kernel) rfl
set_option maxRecDepth 100000 in
theorem mk_L_36 : Cond.methodLink RL 36 yX8_copy ∈ wA := tA 890 (by decide +kernel) rfl
set_option maxRecDepth 100000 in
theorem mk_L_37 : Cond.methodLink RL 37 yX7_mean ∈ wA := tA 289 (by decide +kernel) rfl
set_option maxRecDepth 100000 in
theorem mk_L_40 : Cond.methodLink RL 40 yX8_mean ∈ wA := tA 898 (by decide +kernel) rfl
set_option maxRecDepth 100000 in
theorem mk_L_41 : Cond.methodLink RL 41 yX7_text ∈ wA := tA 297 (by decide +kernel) rfl
set_option maxRecDepth 100000 in
theorem mk_L_44 : Cond.methodLink RL 44 yX8_text ∈ wA := tA 902 (by decide +kernel) rfl
set_option maxRecDepth 100000 in
theorem mk_L_45 : Cond.methodLink RL 45 yX7_put ∈ wA := tA 301 (by decide +kernel) rfl
set_option maxRecDepth 100000 in
theorem mk_L_48 : Cond.methodLink RL 48 yX8_put ∈ wA := tA 910 (by decide +kernel) rfl
set_option maxRecDepth 100000 in
theorem mk_L_49 : Cond.methodLink RL 49 yX7_fault ∈ wA := tA 305 (by decide +kernel) rfl
set_option maxRecDepth 100000 in
theorem mk_L_52 : Cond.methodLink RL 52 yX8_fault ∈ wA := tA 914 (by decide +kernel) rfl
set_option maxRecDepth 100000 in
theorem mk_L_53 : Cond.methodLink RL 53 yX7_court ∈ wA := tA 336 (by decide +kernel) rfl
set_option maxRecDepth 100000 in
theorem mk_L_56 : Cond.methodLink RL 56 yX8_court ∈ wA := tA 949 (by decide +kernel) rfl
set_option maxRecDepth 100000 in
theorem mk_L_57 : Cond.methodLink RL 57 yX7_man ∈ wA := tA 409 (by decide +kernel) rfl
set_option maxRecDepth 100000 in
theorem mk_L_60 : Cond.methodLink RL 60 yX8_man ∈ wA := tA 953 (by decide +kernel) rfl
set_option maxRecDepth 100000 in
theorem mk_L_61 : Cond.methodLink RL 61 yX7_mark ∈ wA := tA 421 (by decide +kernel) rfl
set_option maxRecDepth 100000 in
theorem mk_L_64 : Cond.methodLink RL 64 yX8_mark ∈ wA := tA 1003 (by decide +kernel) rfl
set_option maxRecDepth 100000 in
theorem mk_L_65 : Cond.methodLink RL 65 yX7_heat ∈ wA := tA 445 (by decide +kernel) rfl
set_option maxRecDepth 100000 in
theorem mk_L_68 : Cond.methodLink RL 68 yX8_heat ∈ wA := tA 1019 (by decide +kernel) rfl
set_option maxRecDepth 100000 in
theorem mk_L_69 : Cond.methodLink RL 69 yX7_salve ∈ wA := tA 462 (by decide +kernel) rfl
set_option maxRecDepth 100000 in
theorem mk_L_72 : Cond.methodLink RL 72 yX8_salve ∈ wA := tA 1031 (by decide +kernel) rfl
set_option maxRecDepth 100000 in
theorem mk_L_73 : Cond.methodLink RL 73 yX7_trial ∈ wA := tA 470 (by decide +kernel) rfl
set_option maxRecDepth 100000 in
theorem mk_L_76 : Cond.methodLink RL 76 yX8_trial ∈ wA := tA 1042 (by decide +kernel) rfl
set_option maxRecDepth 100000 in
theorem mk_L_77 : Cond.methodLink RL 77 yX7_undo ∈ wA := tA 474 (by decide +kernel) rfl
set_option maxRecDepth 100000 in
theorem mk_L_80 : Cond.methodLink RL 80 yX8_undo ∈ wA := tA 1058 (by decide +kernel) rfl
set_option maxRecDepth 100000 in
theorem mk_L_81 : Cond.methodLink RL 81 yX7_keep ∈ wA := tA 479 (by decide +kernel) rfl
set_option maxRecDepth 100000 in
theorem mk_L_84 : Cond.methodLink RL 84 yX8_keep ∈ wA := tA 1062 (by decide +kernel) rfl
set_option maxRecDepth 100000 in
theorem mk_L_85 : Cond.methodLink RL 85 yX7_on ∈ wA := tA 490 (by decide +kernel) rfl
set_option maxRecDepth 100000 in
theorem mk_L_88 : Cond.methodLink RL 88 yX8_on ∈ wA := tA 1071 (by decide +kernel) rfl
set_option maxRecDepth 100000 in
theorem mk_L_89 : Cond.methodLink RL 89 yX7_comes ∈ wA := tA 494 (by decide +kernel) rfl
set_option maxRecDepth 100000 in
theorem mk_L_93 : Cond.methodLink RL 93 yX8_comes ∈ wA := tA 1075 (by decide +kernel) rfl
set_option maxRecDepth 100000 in
theorem mk_L_94 : Cond.methodLink RL 94 yX7_wrong ∈ wA := tA 499 (by decide +kernel) rfl
set_option maxRecDepth 100000 in
theorem mk_L_97 : Cond.methodLink RL 97 yX8_wrong ∈ wA := tA 1079 (by decide +kernel) rfl
set_option maxRecDepth 100000 in
theorem mk_L_98 : Cond.methodLink RL 98 yX7_best ∈ wA := tA 520 (by decide +kernel) rfl
set_option maxRecDepth 100000 in
theorem mk_L_101 : Cond.methodLink RL 101 yX8_best ∈ wA := tA 1088 (by decide +kernel) rfl
set_option maxRecDepth 100000 in
theorem mk_L_102 : Cond.methodLink RL 102 yX7_heats ∈ wA := tA 524 (by decide +kernel) rfl
set_option maxRecDepth 100000 in
theorem mk_L_105 : Cond.methodLink RL 105 yX8_heats ∈ wA := tA 1092 (by decide +kernel) rfl
set_option maxRecDepth 100000 in
theorem mk_L_106 : Cond.methodLink RL 106 yX7_tells ∈ wA := tA 532 (by decide +kernel) rfl
set_option maxRecDepth 100000 in
theorem mk_L_109 : Cond.methodLink RL 109 yX8_tells ∈ wA := tA 1096 (by decide +kernel) rfl
set_option maxRecDepth 100000 in
theorem mk_L_110 : Cond.methodLink RL 110 yX7_order ∈ wA := tA 543 (by decide +kernel) rfl
set_option maxRecDepth 100000 in
theorem mk_L_113 : Cond.methodLink RL 113 yX8_order ∈ wA := tA 1104 (by decide +kernel) rfl
set_option maxRecDepth 100000 in
theorem mk_L_114 : Cond.methodLink RL 114 yX7_tried ∈ wA := tA 575 (by decide +kernel) rfl
set_option maxRecDepth 100000 in
theorem mk_L_117 : Cond.methodLink RL 117 yX8_tried ∈ wA := tA 1128 (by decide +kernel) rfl
set_option maxRecDepth 100000 in
theorem mk_L_118 : Cond.methodLink RL 118 yX7_least ∈ wA := tA 587 (by decide +kernel) rfl
set_option maxRecDepth 100000 in
theorem mk_L_121 : Cond.methodLink RL 121 yX8_least ∈ wA := tA 1132 (by decide +kernel) rfl
set_option maxRecDepth 100000 in
theorem mk_L_122 : Cond.methodLink RL 122 yX7_fits ∈ wA := tA 599 (by decide +kernel) rfl
set_option maxRecDepth 100000 in
theorem mk_L_125 : Cond.methodLink RL 125 yX8_fits ∈ wA := tA 1136 (by decide +kernel) rfl
set_option maxRecDepth 100000 in
theorem mk_L_126 : Cond.methodLink RL 126 yX7_ask ∈ wA := tA 617 (by decide +kernel) rfl
set_option maxRecDepth 100000 in
theorem mk_L_129 : Cond.methodLink RL 129 yX8_ask ∈ wA := tA 1151 (by decide +kernel) rfl
set_option maxRecDepth 100000 in
theorem mk_L_130 : Cond.methodLink RL 130 yX7_hands ∈ wA := tA 626 (by decide +kernel) rfl
set_option maxRecDepth 100000 in
theorem mk_L_133 : Cond.methodLink RL 133 yX8_hands ∈ wA := tA 1159 (by decide +kernel) rfl
set_option maxRecDepth 100000 in
theorem mk_L_134 : Cond.methodLink RL 134 yX7_kinds ∈ wA := tA 639 (by decide +kernel) rfl
set_option maxRecDepth 100000 in
theorem mk_L_137 : Cond.methodLink RL 137 yX8_kinds ∈ wA := tA 1171 (by decide +kernel) rfl
set_option maxRecDepth 100000 in
theorem mk_L_138 : Cond.methodLink RL 138 yX7_duel ∈ wA := tA 643 (by decide +kernel) rfl
set_option maxRecDepth 100000 in
theorem mk_L_141 : Cond.methodLink RL 141 yX8_duel ∈ wA := tA 1175 (by decide +kernel) rfl
set_option maxRecDepth 100000 in
theorem mk_L_142 : Cond.methodLink RL 142 yX7_odds ∈ wA := tA 662 (by decide +kernel) rfl
set_option maxRecDepth 100000 in
theorem mk_L_145 : Cond.methodLink RL 145 yX8_odds ∈ wA := tA 1184 (by decide +kernel) rfl
set_option maxRecDepth 100000 in
theorem mk_L_146 : Cond.methodLink RL 146 yX7_mid ∈ wA := tA 675 (by decide +kernel) rfl
set_option maxRecDepth 100000 in
theorem mk_L_149 : Cond.methodLink RL 149 yX8_mid ∈ wA := tA 1197 (by decide +kernel) rfl
set_option maxRecDepth 100000 in
theorem mk_L_150 : Cond.methodLink RL 150 yX7_lots ∈ wA := tA 680 (by decide +kernel) rfl
set_option maxRecDepth 100000 in
theorem mk_L_153 : Cond.methodLink RL 153 yX8_lots ∈ wA := tA 1201 (by decide +kernel) rfl
set_option maxRecDepth 100000 in
theorem mk_L_154 : Cond.methodLink RL 154 yX7_asked ∈ wA := tA 698 (by decide +kernel) rfl
set_option maxRecDepth 100000 in
theorem mk_L_157 : Cond.methodLink RL 157 yX8_asked ∈ wA := tA 1210 (by decide +kernel) rfl
set_option maxRecDepth 100000 in
theorem mk_L_158 : Cond.methodLink RL 158 yX7_upper ∈ wA := tA 702 (by decide +kernel) rfl
set_option maxRecDepth 100000 in
theorem mk_L_162 : Cond.methodLink RL 162 yX8_upper ∈ wA := tA 1214 (by decide +kernel) rfl
set_option maxRecDepth 100000 in
theorem mk_L_163 : Cond.methodLink RL 163 yX7_lower ∈ wA := tA 706 (by decide +kernel) rfl
set_option maxRecDepth 100000 in
theorem mk_L_166 : Cond.methodLink RL 166 yX8_lower ∈ wA := tA 1218 (by decide +kernel) rfl
set_option maxRecDepth 100000 in
theorem mk_L_167 : Cond.methodLink RL 167 yX7_count ∈ wA := tA 710 (by decide +kernel) rfl
set_option maxRecDepth 100000 in
theorem mk_L_170 : Cond.methodLink RL 170 yX8_count ∈ wA := tA 1222 (by decide +kernel) rfl
set_option maxRecDepth 100000 in
theorem mk_L_171 : Cond.methodLink RL 171 yX7_finding ∈ wA := tA 730 (by decide +kernel) rfl
set_option maxRecDepth 100000 in
theorem mk_L_174 : Cond.methodLink RL 174 yX8_finding ∈ wA := tA 1239 (by decide +kernel) rfl
set_option maxRecDepth 100000 in
theorem mk_L_175 : Cond.methodLink RL 175 yX7_findings ∈ wA := tA 734 (by decide +kernel) rfl
set_option maxRecDepth 100000 in
theorem mk_L_178 : Cond.methodLink RL 178 yX8_findings ∈ wA := tA 1243 (by decide +kernel) rfl
set_option maxRecDepth 100000 in
theorem mk_L_179 : Cond.methodLink RL 179 yX7_digest ∈ wA := tA 738 (by decide +kernel) rfl
set_option maxRecDepth 100000 in
theorem mk_L_182 : Cond.methodLink RL 182 yX8_digest ∈ wA := tA 1247 (by decide +kernel) rfl
set_option maxRecDepth 100000 in
theorem mk_X8_62 : Cond.methodLink RX8 62 yX8_layBegun ∈ wA := tA 756 (by decide +kernel) rfl
set_option maxRecDepth 100000 in
theorem mk_X8_74 : Cond.methodLink RX8 74 yX8_in ∈ wA := tA 859 (by decide +kernel) rfl
set_option maxRecDepth 100000 in
theorem mk_X8_80 : Cond.methodLink RX8 80 yX8_isRow ∈ wA := tA 855 (by decide +kernel) rfl
set_option maxRecDepth 100000 in
theorem mk_X8_84 : Cond.methodLink RX8 84 yX8_find ∈ wA := tA 862 (by decide +kernel) rfl
set_option maxRecDepth 100000 in
theorem mk_X8_88 : Cond.methodLink RX8 88 yX8_makeRow ∈ wA := tA 866 (by decide +kernel) rfl
set_option maxRecDepth 100000 in
theorem mk_X8_92 : Cond.methodLink RX8 92 yX8_refused ∈ wA := tA 874 (by decide +kernel) rfl
set_option maxRecDepth 100000 in
theorem mk_X8_96 : Cond.methodLink RX8 96 yX8_tell ∈ wA := tA 878 (by decide +kernel) rfl
set_option maxRecDepth 100000 in
theorem mk_X8_99 : Cond.methodLink RX8 99 yX8_isSpan ∈ wA := tA 894 (by decide +kernel) rfl
set_option maxRecDepth 100000 in
theorem mk_X8_103 : Cond.methodLink RX8 103 yX8_isText ∈ wA := tA 906 (by decide +kernel) rfl
set_option maxRecDepth 100000 in
theorem mk_X8_115 : Cond.methodLink RX8 115 yX8_here ∈ wA := tA 930 (by decide +kernel) rfl
set_option maxRecDepth 100000 in
theorem mk_X8_119 : Cond.methodLink RX8 119 yX8_isFigure ∈ wA := tA 938 (by decide +kernel) rfl
set_option maxRecDepth 100000 in
theorem mk_X8_123 : Cond.methodLink RX8 123 yX8_skip ∈ wA := tA 926 (by decide +kernel) rfl
set_option maxRecDepth 100000 in
theorem mk_X8_126 : Cond.methodLink RX8 126 yX8_figure ∈ wA := tA 934 (by decide +kernel) rfl
set_option maxRecDepth 100000 in
theorem mk_X8_132 : Cond.methodLink RX8 132 yX8_kindOfLetter ∈ wA := tA 946 (by decide +kernel) rfl
set_option maxRecDepth 100000 in
theorem mk_X8_135 : Cond.methodLink RX8 135 yX8_readsIron ∈ wA := tA 922 (by decide +kernel) rfl
set_option maxRecDepth 100000 in
theorem mk_X8_139 : Cond.methodLink RX8 139 yX8_readsMan ∈ wA := tA 942 (by decide +kernel) rfl
set_option maxRecDepth 100000 in
theorem mk_X8_142 : Cond.methodLink RX8 142 yX8_faultOf ∈ wA := tA 918 (by decide +kernel) rfl
set_option maxRecDepth 100000 in
theorem mk_X8_160 : Cond.methodLink RX8 160 yX8_isClerk ∈ wA := tA 969 (by decide +kernel) rfl
set_option maxRecDepth 100000 in
theorem mk_X8_163 : Cond.methodLink RX8 163 yX8_some ∈ wA := tA 984 (by decide +kernel) rfl
set_option maxRecDepth 100000 in
theorem mk_X8_166 : Cond.methodLink RX8 166 yX8_plainFeels ∈ wA := tA 980 (by decide +kernel) rfl
set_option maxRecDepth 100000 in
theorem mk_X8_169 : Cond.methodLink RX8 169 yX8_hardBy ∈ wA := tA 966 (by decide +kernel) rfl
set_option maxRecDepth 100000 in
theorem mk_X8_172 : Cond.methodLink RX8 172 yX8_burnsBy ∈ wA := tA 976 (by decide +kernel) rfl
set_option maxRecDepth 100000 in
theorem mk_X8_176 : Cond.methodLink RX8 176 yX8_comesBy ∈ wA := tA 991 (by decide +kernel) rfl
set_option maxRecDepth 100000 in
theorem mk_X8_179 : Cond.methodLink RX8 179 yX8_burns ∈ wA := tA 972 (by decide +kernel) rfl
set_option maxRecDepth 100000 in
theorem mk_X8_182 : Cond.methodLink RX8 182 yX8_bearable ∈ wA := tA 999 (by decide +kernel) rfl
set_option maxRecDepth 100000 in
theorem mk_X8_185 : Cond.methodLink RX8 185 yX8_doesCome ∈ wA := tA 987 (by decide +kernel) rfl
set_option maxRecDepth 100000 in
theorem mk_X8_188 : Cond.methodLink RX8 188 yX8_isClean ∈ wA := tA 995 (by decide +kernel) rfl
set_option maxRecDepth 100000 in
theorem mk_X8_191 : Cond.methodLink RX8 191 yX8_isMan ∈ wA := tA 957 (by decide +kernel) rfl
set_option maxRecDepth 100000 in
theorem mk_X8_196 : Cond.methodLink RX8 196 yX8_toldOf ∈ wA := tA 962 (by decide +kernel) rfl
set_option maxRecDepth 100000 in
theorem mk_X8_199 : Cond.methodLink RX8 199 yX8_isOf ∈ wA := tA 1007 (by decide +kernel) rfl
set_option maxRecDepth 100000 in
theorem mk_X8_202 : Cond.methodLink RX8 202 yX8_moreHeat ∈ wA := tA 1011 (by decide +kernel) rfl
set_option maxRecDepth 100000 in
theorem mk_X8_205 : Cond.methodLink RX8 205 yX8_awayBut ∈ wA := tA 1015 (by decide +kernel) rfl
set_option maxRecDepth 100000 in
theorem mk_X8_210 : Cond.methodLink RX8 210 yX8_keepPast ∈ wA := tA 1024 (by decide +kernel) rfl
set_option maxRecDepth 100000 in
theorem mk_X8_213 : Cond.methodLink RX8 213 yX8_heatOf ∈ wA := tA 1028 (by decide +kernel) rfl
set_option maxRecDepth 100000 in
theorem mk_X8_216 : Cond.methodLink RX8 216 yX8_has ∈ wA := tA 1039 (by decide +kernel) rfl
set_option maxRecDepth 100000 in
theorem mk_X8_219 : Cond.methodLink RX8 219 yX8_isDone ∈ wA := tA 1035 (by decide +kernel) rfl
set_option maxRecDepth 100000 in
theorem mk_X8_222 : Cond.methodLink RX8 222 yX8_tellsAt ∈ wA := tA 1050 (by decide +kernel) rfl
set_option maxRecDepth 100000 in
theorem mk_X8_226 : Cond.methodLink RX8 226 yX8_isWrong ∈ wA := tA 1054 (by decide +kernel) rfl
set_option maxRecDepth 100000 in
theorem mk_X8_229 : Cond.methodLink RX8 229 yX8_tryAt ∈ wA := tA 1046 (by decide +kernel) rfl
set_option maxRecDepth 100000 in
theorem mk_X8_234 : Cond.methodLink RX8 234 yX8_copyCourt ∈ wA := tA 1067 (by decide +kernel) rfl
set_option maxRecDepth 100000 in
theorem mk_X8_239 : Cond.methodLink RX8 239 yX8_wrongBy ∈ wA := tA 1084 (by decide +kernel) rfl
set_option maxRecDepth 100000 in
theorem mk_X8_246 : Cond.methodLink RX8 246 yX8_tellParts ∈ wA := tA 1100 (by decide +kernel) rfl
set_option maxRecDepth 100000 in
theorem mk_X8_253 : Cond.methodLink RX8 253 yX8_swapLine ∈ wA := tA 1124 (by decide +kernel) rfl
set_option maxRecDepth 100000 in
theorem mk_X8_256 : Cond.methodLink RX8 256 yX8_layTried ∈ wA := tA 1116 (by decide +kernel) rfl
set_option maxRecDepth 100000 in
theorem mk_X8_259 : Cond.methodLink RX8 259 yX8_layLine ∈ wA := tA 1108 (by decide +kernel) rfl
set_option maxRecDepth 100000 in
theorem mk_X8_262 : Cond.methodLink RX8 262 yX8_wrongInLine ∈ wA := tA 1112 (by decide +kernel) rfl
set_option maxRecDepth 100000 in
theorem mk_X8_265 : Cond.methodLink RX8 265 yX8_nextLine ∈ wA := tA 1120 (by decide +kernel) rfl
set_option maxRecDepth 100000 in
theorem mk_X8_268 : Cond.methodLink RX8 268 yX8_noPairs ∈ wA := tA 1140 (by decide +kernel) rfl
set_option maxRecDepth 100000 in
theorem mk_X8_271 : Cond.methodLink RX8 271 yX8_fitting ∈ wA := tA 1144 (by decide +kernel) rfl
set_option maxRecDepth 100000 in
theorem mk_X8_274 : Cond.methodLink RX8 274 yX8_bits ∈ wA := tA 1148 (by decide +kernel) rfl
set_option maxRecDepth 100000 in
theorem mk_X8_277 : Cond.methodLink RX8 277 yX8_greatestPart ∈ wA := tA 1155 (by decide +kernel) rfl
set_option maxRecDepth 100000 in
theorem mk_X8_280 : Cond.methodLink RX8 280 yX8_tellsBy ∈ wA := tA 1167 (by decide +kernel) rfl
set_option maxRecDepth 100000 in
theorem mk_X8_283 : Cond.methodLink RX8 283 yX8_isTold ∈ wA := tA 1163 (by decide +kernel) rfl
set_option maxRecDepth 100000 in
theorem mk_X8_289 : Cond.methodLink RX8 289 yX8_foulBy ∈ wA := tA 1180 (by decide +kernel) rfl
set_option maxRecDepth 100000 in
theorem mk_X8_294 : Cond.methodLink RX8 294 yX8_isHere ∈ wA := tA 1189 (by decide +kernel) rfl
set_option maxRecDepth 100000 in
theorem mk_X8_297 : Cond.methodLink RX8 297 yX8_cleanWays ∈ wA := tA 1193 (by decide +kernel) rfl
set_option maxRecDepth 100000 in
theorem mk_X8_310 : Cond.methodLink RX8 310 yX8_sumOf ∈ wA := tA 1231 (by decide +kernel) rfl
set_option maxRecDepth 100000 in
theorem mk_X8_313 : Cond.methodLink RX8 313 yX8_thereOf ∈ wA := tA 1235 (by decide +kernel) rfl
set_option maxRecDepth 100000 in
theorem mk_X8_318 : Cond.methodLink RX8 318 yX8_countOf ∈ wA := tA 1227 (by decide +kernel) rfl
set_option maxRecDepth 100000 in
theorem ck_X7_293 : Cond.constant RX7 293 (2147483646) ∈ wA := tA 684 (by decide +kernel) rfl
set_option maxRecDepth 100000 in
theorem ck_X0_165 : Cond.constant RX0 165 (2147483647) ∈ wA := tA 614 (by decide +kernel) rfl
set_option maxRecDepth 100000 in
theorem ck_J6_265 : Cond.constant RJ6 265 (1431655765) ∈ wA := tA 562 (by decide +kernel) rfl
set_option maxRecDepth 100000 in
theorem ck_J6_266 : Cond.constant RJ6 266 (858993459) ∈ wA := tA 563 (by decide +kernel) rfl
set_option maxRecDepth 100000 in
theorem ck_J6_267 : Cond.constant RJ6 267 (252645135) ∈ wA := tA 564 (by decide +kernel) rfl
set_option maxRecDepth 100000 in
theorem ck_X7_288 : Cond.constantLong RX7 288 (12) ∈ wA := tA 674 (by decide +kernel) rfl
set_option maxRecDepth 100000 in
theorem ck_X7_297 : Cond.constantLong RX7 297 (48271) ∈ wA := tA 689 (by decide +kernel) rfl
set_option maxRecDepth 100000 in
theorem ck_X7_299 : Cond.constantLong RX7 299 (2147483647) ∈ wA := tA 690 (by decide +kernel) rfl
set_option maxRecDepth 100000 in
theorem ck_X7_301 : Cond.constantLong RX7 301 (8) ∈ wA := tA 691 (by decide +kernel) rfl
set_option maxRecDepth 100000 in
theorem ck_X7_303 : Cond.constantLong RX7 303 (3) ∈ wA := tA 692 (by decide +kernel) rfl
set_option maxRecDepth 100000 in
theorem ck_X7_330 : Cond.constantLong RX7 330 (17) ∈ wA := tA 742 (by decide +kernel) rfl
set_option maxRecDepth 100000 in
theorem ck_X7_332 : Cond.constantLong RX7 332 (31) ∈ wA := tA 743 (by decide +kernel) rfl
set_option maxRecDepth 100000 in
theorem ck_X6_19 : Cond.constantLong RX6 19 (31) ∈ wA := tA 749 (by decide +kernel) rfl
set_option maxRecDepth 100000 in
theorem ck_X8_72 : Cond.constantLong RX8 72 (5) ∈ wA := tA 858 (by decide +kernel) rfl
set_option maxRecDepth 100000 in
theorem ck_X8_78 : Cond.constantLong RX8 78 (3) ∈ wA := tA 909 (by decide +kernel) rfl
set_option maxRecDepth 100000 in
theorem ck_X8_194 : Cond.constantLong RX8 194 (8) ∈ wA := tA 961 (by decide +kernel) rfl
set_option maxRecDepth 100000 in
theorem ck_X8_208 : Cond.constantLong RX8 208 (-5) ∈ wA := tA 1023 (by decide +kernel) rfl
set_option maxRecDepth 100000 in
theorem ck_X8_232 : Cond.constantLong RX8 232 (2) ∈ wA := tA 1066 (by decide +kernel) rfl
set_option maxRecDepth 100000 in
theorem ck_X8_237 : Cond.constantLong RX8 237 (30) ∈ wA := tA 1083 (by decide +kernel) rfl
set_option maxRecDepth 100000 in
theorem ck_X8_287 : Cond.constantLong RX8 287 (6) ∈ wA := tA 1179 (by decide +kernel) rfl
set_option maxRecDepth 100000 in
theorem ck_X8_292 : Cond.constantLong RX8 292 (12) ∈ wA := tA 1188 (by decide +kernel) rfl
set_option maxRecDepth 100000 in
theorem ck_X8_300 : Cond.constantLong RX8 300 (20) ∈ wA := tA 1205 (by decide +kernel) rfl
set_option maxRecDepth 100000 in
theorem ck_X8_302 : Cond.constantLong RX8 302 (2147483646) ∈ wA := tA 1206 (by decide +kernel) rfl
set_option maxRecDepth 100000 in
theorem ck_X8_304 : Cond.constantLong RX8 304 (48271) ∈ wA := tA 1207 (by decide +kernel) rfl
set_option maxRecDepth 100000 in
theorem ck_X8_306 : Cond.constantLong RX8 306 (2147483647) ∈ wA := tA 1208 (by decide +kernel) rfl
set_option maxRecDepth 100000 in
theorem ck_X8_308 : Cond.constantLong RX8 308 (11) ∈ wA := tA 1209 (by decide +kernel) rfl
set_option maxRecDepth 100000 in
theorem ck_X8_316 : Cond.constantLong RX8 316 (10) ∈ wA := tA 1226 (by decide +kernel) rfl
set_option maxRecDepth 100000 in
theorem ck_X8_321 : Cond.constantLong RX8 321 (17) ∈ wA := tA 1251 (by decide +kernel) rfl
set_option maxRecDepth 100000 in
theorem ck_X8_323 : Cond.constantLong RX8 323 (31) ∈ wA := tA 1252 (by decide +kernel) rfl
set_option maxRecDepth 100000 in
theorem kc_X0_init : Cond.code yX0_init cX0_init 2 none ∈ wA := tA 49 (by decide +kernel) rfl
set_option maxRecDepth 100000 in
theorem ki_X0_init : Cond.instanceMethod yX0_init ∈ wA ∧ Cond.initialized RX0 ∈ wA := ⟨tA 48 (by decide +kernel) rfl, tA 3 (by decide +kernel) rfl⟩
set_option maxRecDepth 100000 in
theorem kc_X0_assemble : Cond.code yX0_assemble cX0_assemble 5 none ∈ wA := tA 343 (by decide +kernel) rfl
set_option maxRecDepth 100000 in
theorem ki_X0_assemble : Cond.instanceMethod yX0_assemble ∈ wA ∧ Cond.selects RX0 yX0_assemble yX0_assemble ∈ wA ∧ Cond.initialized RX0 ∈ wA := ⟨tA 341 (by decide +kernel) rfl, tA 342 (by decide +kernel) rfl, tA 3 (by decide +kernel) rfl⟩
set_option maxRecDepth 100000 in
theorem kc_X0_detail : Cond.code yX0_detail cX0_detail 3 (some .int) ∈ wA := tA 420 (by decide +kernel) rfl
set_option maxRecDepth 100000 in
theorem ki_X0_detail : Cond.instanceMethod yX0_detail ∈ wA ∧ Cond.selects RX0 yX0_detail yX0_detail ∈ wA ∧ Cond.initialized RX0 ∈ wA := ⟨tA 418 (by decide +kernel) rfl, tA 419 (by decide +kernel) rfl, tA 3 (by decide +kernel) rfl⟩
set_option maxRecDepth 100000 in
theorem kc_X0_perform : Cond.code yX0_perform cX0_perform 3 none ∈ wA := tA 456 (by decide +kernel) rfl
set_option maxRecDepth 100000 in
theorem ki_X0_perform : Cond.instanceMethod yX0_perform ∈ wA ∧ Cond.selects RX0 yX0_perform yX0_perform ∈ wA ∧ Cond.initialized RX0 ∈ wA := ⟨tA 454 (by decide +kernel) rfl, tA 455 (by decide +kernel) rfl, tA 3 (by decide +kernel) rfl⟩
set_option maxRecDepth 100000 in
theorem kc_X0_actAgain : Cond.code yX0_actAgain cX0_actAgain 2 none ∈ wA := tA 351 (by decide +kernel) rfl
set_option maxRecDepth 100000 in
theorem ki_X0_actAgain : Cond.instanceMethod yX0_actAgain ∈ wA ∧ Cond.selects RX0 yX0_actAgain yX0_actAgain ∈ wA ∧ Cond.initialized RX0 ∈ wA := ⟨tA 349 (by decide +kernel) rfl, tA 350 (by decide +kernel) rfl, tA 3 (by decide +kernel) rfl⟩
set_option maxRecDepth 100000 in
theorem kc_X0_act : Cond.code yX0_act cX0_act 4 none ∈ wA := tA 359 (by decide +kernel) rfl
set_option maxRecDepth 100000 in
theorem ki_X0_act : Cond.instanceMethod yX0_act ∈ wA ∧ Cond.selects RX0 yX0_act yX0_act ∈ wA ∧ Cond.initialized RX0 ∈ wA := ⟨tA 358 (by decide +kernel) rfl, tAp 9 (by decide +kernel), tA 3 (by decide +kernel) rfl⟩
set_option maxRecDepth 100000 in
theorem kc_X0_heatBehind : Cond.code yX0_heatBehind cX0_heatBehind 4 (some .int) ∈ wA := tA 408 (by decide +kernel) rfl
set_option maxRecDepth 100000 in
theorem ki_X0_heatBehind : Cond.instanceMethod yX0_heatBehind ∈ wA ∧ Cond.selects RX0 yX0_heatBehind yX0_heatBehind ∈ wA ∧ Cond.initialized RX0 ∈ wA := ⟨tA 406 (by decide +kernel) rfl, tA 407 (by decide +kernel) rfl, tA 3 (by decide +kernel) rfl⟩
set_option maxRecDepth 100000 in
theorem kc_X0_keptHeat : Cond.code yX0_keptHeat cX0_keptHeat 1 (some .int) ∈ wA := tA 362 (by decide +kernel) rfl
set_option maxRecDepth 100000 in
theorem ki_X0_keptHeat : Cond.static yX0_keptHeat ∈ wA ∧ Cond.initialized RX0 ∈ wA := ⟨tA 361 (by decide +kernel) rfl, tA 3 (by decide +kernel) rfl⟩
set_option maxRecDepth 100000 in
theorem kc_X0_felt : Cond.code yX0_felt cX0_felt 4 (some .int) ∈ wA := tA 392 (by decide +kernel) rfl
set_option maxRecDepth 100000 in
theorem ki_X0_felt : Cond.instanceMethod yX0_felt ∈ wA ∧ Cond.selects RX0 yX0_felt yX0_felt ∈ wA ∧ Cond.initialized RX0 ∈ wA := ⟨tA 390 (by decide +kernel) rfl, tA 391 (by decide +kernel) rfl, tA 3 (by decide +kernel) rfl⟩
set_option maxRecDepth 100000 in
theorem kc_X0_burn : Cond.code yX0_burn cX0_burn 3 (some .int) ∈ wA := tA 388 (by decide +kernel) rfl
set_option maxRecDepth 100000 in
theorem ki_X0_burn : Cond.instanceMethod yX0_burn ∈ wA ∧ Cond.selects RX0 yX0_burn yX0_burn ∈ wA ∧ Cond.initialized RX0 ∈ wA := ⟨tA 386 (by decide +kernel) rfl, tA 387 (by decide +kernel) rfl, tA 3 (by decide +kernel) rfl⟩
set_option maxRecDepth 100000 in
theorem kc_X0_lacking : Cond.code yX0_lacking cX0_lacking 3 (some .int) ∈ wA := tA 384 (by decide +kernel) rfl
set_option maxRecDepth 100000 in
theorem ki_X0_lacking : Cond.instanceMethod yX0_lacking ∈ wA ∧ Cond.selects RX0 yX0_lacking yX0_lacking ∈ wA ∧ Cond.initialized RX0 ∈ wA := ⟨tA 382 (by decide +kernel) rfl, tA 383 (by decide +kernel) rfl, tA 3 (by decide +kernel) rfl⟩
set_option maxRecDepth 100000 in
theorem kc_X0_verdict : Cond.code yX0_verdict cX0_verdict 3 (some .int) ∈ wA := tA 372 (by decide +kernel) rfl
set_option maxRecDepth 100000 in
theorem ki_X0_verdict : Cond.instanceMethod yX0_verdict ∈ wA ∧ Cond.selects RX0 yX0_verdict yX0_verdict ∈ wA ∧ Cond.initialized RX0 ∈ wA := ⟨tA 370 (by decide +kernel) rfl, tA 371 (by decide +kernel) rfl, tA 3 (by decide +kernel) rfl⟩
set_option maxRecDepth 100000 in
theorem kc_X0_heatToSpare : Cond.code yX0_heatToSpare cX0_heatToSpare 3 (some .int) ∈ wA := tA 429 (by decide +kernel) rfl
set_option maxRecDepth 100000 in
theorem ki_X0_heatToSpare : Cond.instanceMethod yX0_heatToSpare ∈ wA ∧ Cond.selects RX0 yX0_heatToSpare yX0_heatToSpare ∈ wA ∧ Cond.initialized RX0 ∈ wA := ⟨tA 427 (by decide +kernel) rfl, tA 428 (by decide +kernel) rfl, tA 3 (by decide +kernel) rfl⟩
set_option maxRecDepth 100000 in
theorem kc_X0_mustBeCleared : Cond.code yX0_mustBeCleared cX0_mustBeCleared 2 (some .boolean) ∈ wA := tA 594 (by decide +kernel) rfl
set_option maxRecDepth 100000 in
theorem ki_X0_mustBeCleared : Cond.instanceMethod yX0_mustBeCleared ∈ wA ∧ Cond.selects RX0 yX0_mustBeCleared yX0_mustBeCleared ∈ wA ∧ Cond.initialized RX0 ∈ wA := ⟨tA 592 (by decide +kernel) rfl, tA 593 (by decide +kernel) rfl, tA 3 (by decide +kernel) rfl⟩
set_option maxRecDepth 100000 in
theorem kc_X0_salveNeeded : Cond.code yX0_salveNeeded cX0_salveNeeded 2 (some .int) ∈ wA := tA 598 (by decide +kernel) rfl
set_option maxRecDepth 100000 in
theorem ki_X0_salveNeeded : Cond.instanceMethod yX0_salveNeeded ∈ wA ∧ Cond.selects RX0 yX0_salveNeeded yX0_salveNeeded ∈ wA ∧ Cond.initialized RX0 ∈ wA := ⟨tA 596 (by decide +kernel) rfl, tA 597 (by decide +kernel) rfl, tA 3 (by decide +kernel) rfl⟩
set_option maxRecDepth 100000 in
theorem kc_X0_cleanChances : Cond.code yX0_cleanChances cX0_cleanChances 4 (some .int) ∈ wA := tA 673 (by decide +kernel) rfl
set_option maxRecDepth 100000 in
theorem ki_X0_cleanChances : Cond.instanceMethod yX0_cleanChances ∈ wA ∧ Cond.selects RX0 yX0_cleanChances yX0_cleanChances ∈ wA ∧ Cond.initialized RX0 ∈ wA := ⟨tA 671 (by decide +kernel) rfl, tA 672 (by decide +kernel) rfl, tA 3 (by decide +kernel) rfl⟩
set_option maxRecDepth 100000 in
theorem kc_X0_likeOf : Cond.code yX0_likeOf cX0_likeOf 2 (some (.object "ThirdDay$Man")) ∈ wA := tA 437 (by decide +kernel) rfl
set_option maxRecDepth 100000 in
theorem ki_X0_likeOf : Cond.instanceMethod yX0_likeOf ∈ wA ∧ Cond.selects RX0 yX0_likeOf yX0_likeOf ∈ wA ∧ Cond.initialized RX0 ∈ wA := ⟨tA 435 (by decide +kernel) rfl, tA 436 (by decide +kernel) rfl, tA 3 (by decide +kernel) rfl⟩
set_option maxRecDepth 100000 in
theorem kc_X0_likeButPlain : Cond.code yX0_likeButPlain cX0_likeButPlain 3 (some (.object "ThirdDay$Man")) ∈ wA := tA 433 (by decide +kernel) rfl
set_option maxRecDepth 100000 in
theorem ki_X0_likeButPlain : Cond.instanceMethod yX0_likeButPlain ∈ wA ∧ Cond.selects RX0 yX0_likeButPlain yX0_likeButPlain ∈ wA ∧ Cond.initialized RX0 ∈ wA := ⟨tA 431 (by decide +kernel) rfl, tA 432 (by decide +kernel) rfl, tA 3 (by decide +kernel) rfl⟩
set_option maxRecDepth 100000 in
theorem kc_X0_wouldTell : Cond.code yX0_wouldTell cX0_wouldTell 4 (some .boolean) ∈ wA := tA 638 (by decide +kernel) rfl
set_option maxRecDepth 100000 in
theorem ki_X0_wouldTell : Cond.instanceMethod yX0_wouldTell ∈ wA ∧ Cond.selects RX0 yX0_wouldTell yX0_wouldTell ∈ wA ∧ Cond.initialized RX0 ∈ wA := ⟨tA 636 (by decide +kernel) rfl, tA 637 (by decide +kernel) rfl, tA 3 (by decide +kernel) rfl⟩
set_option maxRecDepth 100000 in
theorem kc_X0_guiltyWrongly : Cond.code yX0_guiltyWrongly cX0_guiltyWrongly 4 (some .int) ∈ wA := tA 510 (by decide +kernel) rfl
set_option maxRecDepth 100000 in
theorem ki_X0_guiltyWrongly : Cond.instanceMethod yX0_guiltyWrongly ∈ wA ∧ Cond.selects RX0 yX0_guiltyWrongly yX0_guiltyWrongly ∈ wA ∧ Cond.initialized RX0 ∈ wA := ⟨tA 508 (by decide +kernel) rfl, tA 509 (by decide +kernel) rfl, tA 3 (by decide +kernel) rfl⟩
set_option maxRecDepth 100000 in
theorem kc_X0_allWrongly : Cond.code yX0_allWrongly cX0_allWrongly 4 (some .int) ∈ wA := tA 519 (by decide +kernel) rfl
set_option maxRecDepth 100000 in
theorem ki_X0_allWrongly : Cond.instanceMethod yX0_allWrongly ∈ wA ∧ Cond.selects RX0 yX0_allWrongly yX0_allWrongly ∈ wA ∧ Cond.initialized RX0 ∈ wA := ⟨tA 517 (by decide +kernel) rfl, tA 518 (by decide +kernel) rfl, tA 3 (by decide +kernel) rfl⟩
set_option maxRecDepth 100000 in
theorem kc_X0_wouldWrong : Cond.code yX0_wouldWrong cX0_wouldWrong 3 (some .boolean) ∈ wA := tA 514 (by decide +kernel) rfl
set_option maxRecDepth 100000 in
theorem ki_X0_wouldWrong : Cond.instanceMethod yX0_wouldWrong ∈ wA ∧ Cond.selects RX0 yX0_wouldWrong yX0_wouldWrong ∈ wA ∧ Cond.initialized RX0 ∈ wA := ⟨tA 513 (by decide +kernel) rfl, tAp 12 (by decide +kernel), tA 3 (by decide +kernel) rfl⟩
set_option maxRecDepth 100000 in
theorem kc_X0_foulOnes : Cond.code yX0_foulOnes cX0_foulOnes 4 (some .int) ∈ wA := tA 654 (by decide +kernel) rfl
set_option maxRecDepth 100000 in
theorem ki_X0_foulOnes : Cond.instanceMethod yX0_foulOnes ∈ wA ∧ Cond.selects RX0 yX0_foulOnes yX0_foulOnes ∈ wA ∧ Cond.initialized RX0 ∈ wA := ⟨tA 652 (by decide +kernel) rfl, tA 653 (by decide +kernel) rfl, tA 3 (by decide +kernel) rfl⟩
set_option maxRecDepth 100000 in
theorem kc_X0_heatsTelling : Cond.code yX0_heatsTelling cX0_heatsTelling 5 (some .int) ∈ wA := tA 531 (by decide +kernel) rfl
set_option maxRecDepth 100000 in
theorem ki_X0_heatsTelling : Cond.instanceMethod yX0_heatsTelling ∈ wA ∧ Cond.selects RX0 yX0_heatsTelling yX0_heatsTelling ∈ wA ∧ Cond.initialized RX0 ∈ wA := ⟨tA 529 (by decide +kernel) rfl, tA 530 (by decide +kernel) rfl, tA 3 (by decide +kernel) rfl⟩
set_option maxRecDepth 100000 in
theorem kc_X0_heatsFitting : Cond.code yX0_heatsFitting cX0_heatsFitting 4 (some .int) ∈ wA := tA 613 (by decide +kernel) rfl
set_option maxRecDepth 100000 in
theorem ki_X0_heatsFitting : Cond.instanceMethod yX0_heatsFitting ∈ wA ∧ Cond.selects RX0 yX0_heatsFitting yX0_heatsFitting ∈ wA ∧ Cond.initialized RX0 ∈ wA := ⟨tA 611 (by decide +kernel) rfl, tA 612 (by decide +kernel) rfl, tA 3 (by decide +kernel) rfl⟩
set_option maxRecDepth 100000 in
theorem kc_X0_greatestPart : Cond.code yX0_greatestPart cX0_greatestPart 5 (some .int) ∈ wA := tA 624 (by decide +kernel) rfl
set_option maxRecDepth 100000 in
theorem ki_X0_greatestPart : Cond.instanceMethod yX0_greatestPart ∈ wA ∧ Cond.selects RX0 yX0_greatestPart yX0_greatestPart ∈ wA ∧ Cond.initialized RX0 ∈ wA := ⟨tA 622 (by decide +kernel) rfl, tA 623 (by decide +kernel) rfl, tA 3 (by decide +kernel) rfl⟩
set_option maxRecDepth 100000 in
theorem kc_X0_absent : Cond.code yX0_absent cX0_absent 3 (some .int) ∈ wA := tA 443 (by decide +kernel) rfl
set_option maxRecDepth 100000 in
theorem ki_X0_absent : Cond.instanceMethod yX0_absent ∈ wA ∧ Cond.selects RX0 yX0_absent yX0_absent ∈ wA ∧ Cond.initialized RX0 ∈ wA := ⟨tA 441 (by decide +kernel) rfl, tA 442 (by decide +kernel) rfl, tA 3 (by decide +kernel) rfl⟩
set_option maxRecDepth 100000 in
theorem kc_X0_triedOnes : Cond.code yX0_triedOnes cX0_triedOnes 3 (some .int) ∈ wA := tA 558 (by decide +kernel) rfl
set_option maxRecDepth 100000 in
theorem ki_X0_triedOnes : Cond.instanceMethod yX0_triedOnes ∈ wA ∧ Cond.selects RX0 yX0_triedOnes yX0_triedOnes ∈ wA ∧ Cond.initialized RX0 ∈ wA := ⟨tA 556 (by decide +kernel) rfl, tA 557 (by decide +kernel) rfl, tA 3 (by decide +kernel) rfl⟩
set_option maxRecDepth 100000 in
theorem kc_X0_toldClean : Cond.code yX0_toldClean cX0_toldClean 3 (some .int) ∈ wA := tA 404 (by decide +kernel) rfl
set_option maxRecDepth 100000 in
theorem ki_X0_toldClean : Cond.instanceMethod yX0_toldClean ∈ wA ∧ Cond.selects RX0 yX0_toldClean yX0_toldClean ∈ wA ∧ Cond.initialized RX0 ∈ wA := ⟨tA 402 (by decide +kernel) rfl, tA 403 (by decide +kernel) rfl, tA 3 (by decide +kernel) rfl⟩
set_option maxRecDepth 100000 in
theorem kc_X0_toldWrongly : Cond.code yX0_toldWrongly cX0_toldWrongly 3 (some .int) ∈ wA := tA 688 (by decide +kernel) rfl
set_option maxRecDepth 100000 in
theorem ki_X0_toldWrongly : Cond.instanceMethod yX0_toldWrongly ∈ wA ∧ Cond.selects RX0 yX0_toldWrongly yX0_toldWrongly ∈ wA ∧ Cond.initialized RX0 ∈ wA := ⟨tA 686 (by decide +kernel) rfl, tA 687 (by decide +kernel) rfl, tA 3 (by decide +kernel) rfl⟩
set_option maxRecDepth 100000 in
theorem kc_X0_allSalve : Cond.code yX0_allSalve cX0_allSalve 3 (some .int) ∈ wA := tA 717 (by decide +kernel) rfl
set_option maxRecDepth 100000 in
theorem ki_X0_allSalve : Cond.instanceMethod yX0_allSalve ∈ wA ∧ Cond.selects RX0 yX0_allSalve yX0_allSalve ∈ wA ∧ Cond.initialized RX0 ∈ wA := ⟨tA 715 (by decide +kernel) rfl, tA 716 (by decide +kernel) rfl, tA 3 (by decide +kernel) rfl⟩
set_option maxRecDepth 100000 in
theorem kc_X0_ploughmen : Cond.code yX0_ploughmen cX0_ploughmen 3 (some .int) ∈ wA := tA 721 (by decide +kernel) rfl
set_option maxRecDepth 100000 in
theorem ki_X0_ploughmen : Cond.instanceMethod yX0_ploughmen ∈ wA ∧ Cond.selects RX0 yX0_ploughmen yX0_ploughmen ∈ wA ∧ Cond.initialized RX0 ∈ wA := ⟨tA 719 (by decide +kernel) rfl, tA 720 (by decide +kernel) rfl, tA 3 (by decide +kernel) rfl⟩
set_option maxRecDepth 100000 in
theorem kc_X1_init : Cond.code yX1_init cX1_init 2 none ∈ wA := tA 97 (by decide +kernel) rfl
set_option maxRecDepth 100000 in
theorem ki_X1_init : Cond.instanceMethod yX1_init ∈ wA ∧ Cond.initialized RX1 ∈ wA := ⟨tA 96 (by decide +kernel) rfl, tA 5 (by decide +kernel) rfl⟩
set_option maxRecDepth 100000 in
theorem kc_X1_hasRoomFor : Cond.code yX1_hasRoomFor cX1_hasRoomFor 2 (some .boolean) ∈ wA := tA 452 (by decide +kernel) rfl
set_option maxRecDepth 100000 in
theorem ki_X1_hasRoomFor : Cond.instanceMethod yX1_hasRoomFor ∈ wA ∧ Cond.selects RX1 yX1_hasRoomFor yX1_hasRoomFor ∈ wA ∧ Cond.initialized RX1 ∈ wA := ⟨tA 450 (by decide +kernel) rfl, tA 451 (by decide +kernel) rfl, tA 5 (by decide +kernel) rfl⟩
set_option maxRecDepth 100000 in
theorem kc_X1_add : Cond.code yX1_add cX1_add 3 none ∈ wA := tA 460 (by decide +kernel) rfl
set_option maxRecDepth 100000 in
theorem ki_X1_add : Cond.instanceMethod yX1_add ∈ wA ∧ Cond.selects RX1 yX1_add yX1_add ∈ wA ∧ Cond.initialized RX1 ∈ wA := ⟨tA 458 (by decide +kernel) rfl, tA 459 (by decide +kernel) rfl, tA 5 (by decide +kernel) rfl⟩
set_option maxRecDepth 100000 in
theorem kc_X1_become : Cond.code yX1_become cX1_become 3 none ∈ wA := tA 489 (by decide +kernel) rfl
set_option maxRecDepth 100000 in
theorem ki_X1_become : Cond.instanceMethod yX1_become ∈ wA ∧ Cond.selects RX1 yX1_become yX1_become ∈ wA ∧ Cond.initialized RX1 ∈ wA := ⟨tA 487 (by decide +kernel) rfl, tA 488 (by decide +kernel) rfl, tA 5 (by decide +kernel) rfl⟩
set_option maxRecDepth 100000 in
theorem kc_X2_init : Cond.code yX2_init cX2_init 1 none ∈ wA := tA 168 (by decide +kernel) rfl
set_option maxRecDepth 100000 in
theorem ki_X2_init : Cond.instanceMethod yX2_init ∈ wA ∧ Cond.initialized RX2 ∈ wA := ⟨tA 167 (by decide +kernel) rfl, tA 7 (by decide +kernel) rfl⟩
set_option maxRecDepth 100000 in
theorem kc_X2_foulAtLast : Cond.code yX2_foulAtLast cX2_foulAtLast 5 (some .int) ∈ wA := tA 650 (by decide +kernel) rfl
set_option maxRecDepth 100000 in
theorem ki_X2_foulAtLast : Cond.instanceMethod yX2_foulAtLast ∈ wA ∧ Cond.selects RX2 yX2_foulAtLast yX2_foulAtLast ∈ wA ∧ Cond.initialized RX2 ∈ wA := ⟨tA 648 (by decide +kernel) rfl, tA 649 (by decide +kernel) rfl, tA 7 (by decide +kernel) rfl⟩
set_option maxRecDepth 100000 in
theorem kc_X2_chosen : Cond.code yX2_chosen cX2_chosen 6 (some .int) ∈ wA := tA 658 (by decide +kernel) rfl
set_option maxRecDepth 100000 in
theorem ki_X2_chosen : Cond.instanceMethod yX2_chosen ∈ wA ∧ Cond.selects RX2 yX2_chosen yX2_chosen ∈ wA ∧ Cond.initialized RX2 ∈ wA := ⟨tA 657 (by decide +kernel) rfl, tAp 19 (by decide +kernel), tA 7 (by decide +kernel) rfl⟩
set_option maxRecDepth 100000 in
theorem kc_X3_init : Cond.code yX3_init cX3_init 1 none ∈ wA := tA 56 (by decide +kernel) rfl
set_option maxRecDepth 100000 in
theorem ki_X3_init : Cond.instanceMethod yX3_init ∈ wA ∧ Cond.initialized RX3 ∈ wA := ⟨tA 55 (by decide +kernel) rfl, tA 4 (by decide +kernel) rfl⟩
set_option maxRecDepth 100000 in
theorem kc_X3_become : Cond.code yX3_become cX3_become 5 none ∈ wA := tA 347 (by decide +kernel) rfl
set_option maxRecDepth 100000 in
theorem ki_X3_become : Cond.instanceMethod yX3_become ∈ wA ∧ Cond.selects RX3 yX3_become yX3_become ∈ wA ∧ Cond.initialized RX3 ∈ wA := ⟨tA 345 (by decide +kernel) rfl, tA 346 (by decide +kernel) rfl, tA 4 (by decide +kernel) rfl⟩
set_option maxRecDepth 100000 in
theorem kc_X3_forgetDeeds : Cond.code yX3_forgetDeeds cX3_forgetDeeds 1 none ∈ wA := tA 355 (by decide +kernel) rfl
set_option maxRecDepth 100000 in
theorem ki_X3_forgetDeeds : Cond.instanceMethod yX3_forgetDeeds ∈ wA ∧ Cond.selects RX3 yX3_forgetDeeds yX3_forgetDeeds ∈ wA ∧ Cond.initialized RX3 ∈ wA := ⟨tA 353 (by decide +kernel) rfl, tA 354 (by decide +kernel) rfl, tA 4 (by decide +kernel) rfl⟩
set_option maxRecDepth 100000 in
theorem kc_X3_isTried : Cond.code yX3_isTried cX3_isTried 1 (some .boolean) ∈ wA := tA 469 (by decide +kernel) rfl
set_option maxRecDepth 100000 in
theorem ki_X3_isTried : Cond.instanceMethod yX3_isTried ∈ wA ∧ Cond.selects RX3 yX3_isTried yX3_isTried ∈ wA ∧ Cond.initialized RX3 ∈ wA := ⟨tA 467 (by decide +kernel) rfl, tA 468 (by decide +kernel) rfl, tA 4 (by decide +kernel) rfl⟩
set_option maxRecDepth 100000 in
theorem kc_X3_isOf : Cond.code yX3_isOf cX3_isOf 2 (some .boolean) ∈ wA := tA 380 (by decide +kernel) rfl
set_option maxRecDepth 100000 in
theorem ki_X3_isOf : Cond.instanceMethod yX3_isOf ∈ wA ∧ Cond.selects RX3 yX3_isOf yX3_isOf ∈ wA ∧ Cond.initialized RX3 ∈ wA := ⟨tA 378 (by decide +kernel) rfl, tA 379 (by decide +kernel) rfl, tA 4 (by decide +kernel) rfl⟩
set_option maxRecDepth 100000 in
theorem kc_X3_hardness : Cond.code yX3_hardness cX3_hardness 1 (some .int) ∈ wA := tA 396 (by decide +kernel) rfl
set_option maxRecDepth 100000 in
theorem ki_X3_hardness : Cond.instanceMethod yX3_hardness ∈ wA ∧ Cond.selects RX3 yX3_hardness yX3_hardness ∈ wA ∧ Cond.initialized RX3 ∈ wA := ⟨tA 394 (by decide +kernel) rfl, tA 395 (by decide +kernel) rfl, tA 4 (by decide +kernel) rfl⟩
set_option maxRecDepth 100000 in
theorem kc_X3_appears : Cond.code yX3_appears cX3_appears 2 (some .boolean) ∈ wA := tA 376 (by decide +kernel) rfl
set_option maxRecDepth 100000 in
theorem ki_X3_appears : Cond.instanceMethod yX3_appears ∈ wA ∧ Cond.selects RX3 yX3_appears yX3_appears ∈ wA ∧ Cond.initialized RX3 ∈ wA := ⟨tA 374 (by decide +kernel) rfl, tA 375 (by decide +kernel) rfl, tA 4 (by decide +kernel) rfl⟩
set_option maxRecDepth 100000 in
theorem kc_X3_wrongedBy : Cond.code yX3_wrongedBy cX3_wrongedBy 2 (some .boolean) ∈ wA := tA 400 (by decide +kernel) rfl
set_option maxRecDepth 100000 in
theorem ki_X3_wrongedBy : Cond.instanceMethod yX3_wrongedBy ∈ wA ∧ Cond.selects RX3 yX3_wrongedBy yX3_wrongedBy ∈ wA ∧ Cond.initialized RX3 ∈ wA := ⟨tA 398 (by decide +kernel) rfl, tA 399 (by decide +kernel) rfl, tA 4 (by decide +kernel) rfl⟩
set_option maxRecDepth 100000 in
theorem kc_X3_dueByLot : Cond.code yX3_dueByLot cX3_dueByLot 1 (some .int) ∈ wA := tA 696 (by decide +kernel) rfl
set_option maxRecDepth 100000 in
theorem ki_X3_dueByLot : Cond.instanceMethod yX3_dueByLot ∈ wA ∧ Cond.selects RX3 yX3_dueByLot yX3_dueByLot ∈ wA ∧ Cond.initialized RX3 ∈ wA := ⟨tA 694 (by decide +kernel) rfl, tA 695 (by decide +kernel) rfl, tA 4 (by decide +kernel) rfl⟩
set_option maxRecDepth 100000 in
theorem kc_X4_init : Cond.code yX4_init cX4_init 1 none ∈ wA := tA 155 (by decide +kernel) rfl
set_option maxRecDepth 100000 in
theorem ki_X4_init : Cond.instanceMethod yX4_init ∈ wA ∧ Cond.initialized RX4 ∈ wA := ⟨tA 154 (by decide +kernel) rfl, tA 6 (by decide +kernel) rfl⟩
set_option maxRecDepth 100000 in
theorem kc_X4_layBest : Cond.code yX4_layBest cX4_layBest 5 (some .int) ∈ wA := tA 554 (by decide +kernel) rfl
set_option maxRecDepth 100000 in
theorem ki_X4_layBest : Cond.instanceMethod yX4_layBest ∈ wA ∧ Cond.selects RX4 yX4_layBest yX4_layBest ∈ wA ∧ Cond.initialized RX4 ∈ wA := ⟨tA 552 (by decide +kernel) rfl, tA 553 (by decide +kernel) rfl, tA 6 (by decide +kernel) rfl⟩
set_option maxRecDepth 100000 in
theorem kc_X4_goOn : Cond.code yX4_goOn cX4_goOn 13 none ∈ wA := tA 570 (by decide +kernel) rfl
set_option maxRecDepth 100000 in
theorem ki_X4_goOn : Cond.instanceMethod yX4_goOn ∈ wA ∧ Cond.selects RX4 yX4_goOn yX4_goOn ∈ wA ∧ Cond.initialized RX4 ∈ wA := ⟨tA 569 (by decide +kernel) rfl, tAp 15 (by decide +kernel), tA 6 (by decide +kernel) rfl⟩
set_option maxRecDepth 100000 in
theorem kc_X5_init : Cond.code yX5_init cX5_init 1 none ∈ wA := tA 27 (by decide +kernel) rfl
set_option maxRecDepth 100000 in
theorem ki_X5_init : Cond.instanceMethod yX5_init ∈ wA ∧ Cond.initialized RX5 ∈ wA := ⟨tA 26 (by decide +kernel) rfl, tA 2 (by decide +kernel) rfl⟩
set_option maxRecDepth 100000 in
theorem kc_X5_read : Cond.code yX5_read cX5_read 4 (some .int) ∈ wA := tA 312 (by decide +kernel) rfl
set_option maxRecDepth 100000 in
theorem ki_X5_read : Cond.instanceMethod yX5_read ∈ wA ∧ Cond.selects RX5 yX5_read yX5_read ∈ wA ∧ Cond.initialized RX5 ∈ wA := ⟨tA 310 (by decide +kernel) rfl, tA 311 (by decide +kernel) rfl, tA 2 (by decide +kernel) rfl⟩
set_option maxRecDepth 100000 in
theorem kc_X5_takeIron : Cond.code yX5_takeIron cX5_takeIron 2 (some .boolean) ∈ wA := tA 320 (by decide +kernel) rfl
set_option maxRecDepth 100000 in
theorem ki_X5_takeIron : Cond.instanceMethod yX5_takeIron ∈ wA ∧ Cond.selects RX5 yX5_takeIron yX5_takeIron ∈ wA ∧ Cond.initialized RX5 ∈ wA := ⟨tA 319 (by decide +kernel) rfl, tAp 5 (by decide +kernel), tA 2 (by decide +kernel) rfl⟩
set_option maxRecDepth 100000 in
theorem kc_X5_takeMan : Cond.code yX5_takeMan cX5_takeMan 3 (some .boolean) ∈ wA := tA 332 (by decide +kernel) rfl
set_option maxRecDepth 100000 in
theorem ki_X5_takeMan : Cond.instanceMethod yX5_takeMan ∈ wA ∧ Cond.selects RX5 yX5_takeMan yX5_takeMan ∈ wA ∧ Cond.initialized RX5 ∈ wA := ⟨tA 331 (by decide +kernel) rfl, tAp 8 (by decide +kernel), tA 2 (by decide +kernel) rfl⟩
set_option maxRecDepth 100000 in
theorem kc_X5_takeFigure : Cond.code yX5_takeFigure cX5_takeFigure 5 (some .boolean) ∈ wA := tA 324 (by decide +kernel) rfl
set_option maxRecDepth 100000 in
theorem ki_X5_takeFigure : Cond.instanceMethod yX5_takeFigure ∈ wA ∧ Cond.selects RX5 yX5_takeFigure yX5_takeFigure ∈ wA ∧ Cond.initialized RX5 ∈ wA := ⟨tA 323 (by decide +kernel) rfl, tAp 6 (by decide +kernel), tA 2 (by decide +kernel) rfl⟩
set_option maxRecDepth 100000 in
theorem kc_X5_take : Cond.code yX5_take cX5_take 2 none ∈ wA := tA 328 (by decide +kernel) rfl
set_option maxRecDepth 100000 in
theorem ki_X5_take : Cond.instanceMethod yX5_take ∈ wA ∧ Cond.selects RX5 yX5_take yX5_take ∈ wA ∧ Cond.initialized RX5 ∈ wA := ⟨tA 327 (by decide +kernel) rfl, tAp 7 (by decide +kernel), tA 2 (by decide +kernel) rfl⟩
set_option maxRecDepth 100000 in
theorem kc_X5_passBlanks : Cond.code yX5_passBlanks cX5_passBlanks 2 none ∈ wA := tA 316 (by decide +kernel) rfl
set_option maxRecDepth 100000 in
theorem ki_X5_passBlanks : Cond.instanceMethod yX5_passBlanks ∈ wA ∧ Cond.selects RX5 yX5_passBlanks yX5_passBlanks ∈ wA ∧ Cond.initialized RX5 ∈ wA := ⟨tA 315 (by decide +kernel) rfl, tAp 4 (by decide +kernel), tA 2 (by decide +kernel) rfl⟩
set_option maxRecDepth 100000 in
theorem kc_X5_kindOf : Cond.code yX5_kindOf cX5_kindOf 1 (some .int) ∈ wA := tA 335 (by decide +kernel) rfl
set_option maxRecDepth 100000 in
theorem ki_X5_kindOf : Cond.static yX5_kindOf ∈ wA ∧ Cond.initialized RX5 ∈ wA := ⟨tA 334 (by decide +kernel) rfl, tA 2 (by decide +kernel) rfl⟩
set_option maxRecDepth 100000 in
theorem kc_X6_init : Cond.code yX6_init cX6_init 2 none ∈ wA := tA 180 (by decide +kernel) rfl
set_option maxRecDepth 100000 in
theorem ki_X6_init : Cond.instanceMethod yX6_init ∈ wA ∧ Cond.initialized RX6 ∈ wA := ⟨tA 179 (by decide +kernel) rfl, tA 8 (by decide +kernel) rfl⟩
set_option maxRecDepth 100000 in
theorem kc_X6_isMissing : Cond.code yX6_isMissing cX6_isMissing 1 (some .boolean) ∈ wA := tA 269 (by decide +kernel) rfl
set_option maxRecDepth 100000 in
theorem ki_X6_isMissing : Cond.instanceMethod yX6_isMissing ∈ wA ∧ Cond.selects RX6 yX6_isMissing yX6_isMissing ∈ wA ∧ Cond.initialized RX6 ∈ wA := ⟨tA 267 (by decide +kernel) rfl, tA 268 (by decide +kernel) rfl, tA 8 (by decide +kernel) rfl⟩
set_option maxRecDepth 100000 in
theorem kc_X6_layOut : Cond.code yX6_layOut cX6_layOut 4 none ∈ wA := tA 253 (by decide +kernel) rfl
set_option maxRecDepth 100000 in
theorem ki_X6_layOut : Cond.instanceMethod yX6_layOut ∈ wA ∧ Cond.selects RX6 yX6_layOut yX6_layOut ∈ wA ∧ Cond.initialized RX6 ∈ wA := ⟨tA 251 (by decide +kernel) rfl, tA 252 (by decide +kernel) rfl, tA 8 (by decide +kernel) rfl⟩
set_option maxRecDepth 100000 in
theorem kc_X6_hasStretch : Cond.code yX6_hasStretch cX6_hasStretch 3 (some .boolean) ∈ wA := tA 285 (by decide +kernel) rfl
set_option maxRecDepth 100000 in
theorem ki_X6_hasStretch : Cond.instanceMethod yX6_hasStretch ∈ wA ∧ Cond.selects RX6 yX6_hasStretch yX6_hasStretch ∈ wA ∧ Cond.initialized RX6 ∈ wA := ⟨tA 283 (by decide +kernel) rfl, tA 284 (by decide +kernel) rfl, tA 8 (by decide +kernel) rfl⟩
set_option maxRecDepth 100000 in
theorem kc_X6_sum : Cond.code yX6_sum cX6_sum 4 (some .long) ∈ wA := tA 296 (by decide +kernel) rfl
set_option maxRecDepth 100000 in
theorem ki_X6_sum : Cond.instanceMethod yX6_sum ∈ wA ∧ Cond.selects RX6 yX6_sum yX6_sum ∈ wA ∧ Cond.initialized RX6 ∈ wA := ⟨tA 294 (by decide +kernel) rfl, tA 295 (by decide +kernel) rfl, tA 8 (by decide +kernel) rfl⟩
set_option maxRecDepth 100000 in
theorem kc_X6_digestOnto : Cond.code yX6_digestOnto cX6_digestOnto 6 (some .long) ∈ wA := tA 748 (by decide +kernel) rfl
set_option maxRecDepth 100000 in
theorem ki_X6_digestOnto : Cond.instanceMethod yX6_digestOnto ∈ wA ∧ Cond.selects RX6 yX6_digestOnto yX6_digestOnto ∈ wA ∧ Cond.initialized RX6 ∈ wA := ⟨tA 746 (by decide +kernel) rfl, tA 747 (by decide +kernel) rfl, tA 8 (by decide +kernel) rfl⟩
set_option maxRecDepth 100000 in
theorem kc_X7_init : Cond.code yX7_init cX7_init 2 none ∈ wA := tA 17 (by decide +kernel) rfl
set_option maxRecDepth 100000 in
theorem ki_X7_init : Cond.instanceMethod yX7_init ∈ wA ∧ Cond.initialized RX7 ∈ wA := ⟨tA 16 (by decide +kernel) rfl, tA 1 (by decide +kernel) rfl⟩
set_option maxRecDepth 100000 in
theorem kc_X7_row : Cond.code yX7_row cX7_row 3 (some .int) ∈ wA := tA 238 (by decide +kernel) rfl
set_option maxRecDepth 100000 in
theorem ki_X7_row : Cond.instanceMethod yX7_row ∈ wA ∧ Cond.selects RX7 yX7_row yX7_row ∈ wA ∧ Cond.initialized RX7 ∈ wA := ⟨tA 236 (by decide +kernel) rfl, tA 237 (by decide +kernel) rfl, tA 1 (by decide +kernel) rfl⟩
set_option maxRecDepth 100000 in
theorem kc_X7_lay : Cond.code yX7_lay cX7_lay 5 (some .int) ∈ wA := tA 257 (by decide +kernel) rfl
set_option maxRecDepth 100000 in
theorem ki_X7_lay : Cond.instanceMethod yX7_lay ∈ wA ∧ Cond.selects RX7 yX7_lay yX7_lay ∈ wA ∧ Cond.initialized RX7 ∈ wA := ⟨tA 255 (by decide +kernel) rfl, tA 256 (by decide +kernel) rfl, tA 1 (by decide +kernel) rfl⟩
set_option maxRecDepth 100000 in
theorem kc_X7_at : Cond.code yX7_at cX7_at 4 (some .int) ∈ wA := tA 273 (by decide +kernel) rfl
set_option maxRecDepth 100000 in
theorem ki_X7_at : Cond.instanceMethod yX7_at ∈ wA ∧ Cond.selects RX7 yX7_at yX7_at ∈ wA ∧ Cond.initialized RX7 ∈ wA := ⟨tA 271 (by decide +kernel) rfl, tA 272 (by decide +kernel) rfl, tA 1 (by decide +kernel) rfl⟩
set_option maxRecDepth 100000 in
theorem kc_X7_tear : Cond.code yX7_tear cX7_tear 3 (some .int) ∈ wA := tA 277 (by decide +kernel) rfl
set_option maxRecDepth 100000 in
theorem ki_X7_tear : Cond.instanceMethod yX7_tear ∈ wA ∧ Cond.selects RX7 yX7_tear yX7_tear ∈ wA ∧ Cond.initialized RX7 ∈ wA := ⟨tA 275 (by decide +kernel) rfl, tA 276 (by decide +kernel) rfl, tA 1 (by decide +kernel) rfl⟩
set_option maxRecDepth 100000 in
theorem kc_X7_copy : Cond.code yX7_copy cX7_copy 8 (some .int) ∈ wA := tA 281 (by decide +kernel) rfl
set_option maxRecDepth 100000 in
theorem ki_X7_copy : Cond.instanceMethod yX7_copy ∈ wA ∧ Cond.selects RX7 yX7_copy yX7_copy ∈ wA ∧ Cond.initialized RX7 ∈ wA := ⟨tA 279 (by decide +kernel) rfl, tA 280 (by decide +kernel) rfl, tA 1 (by decide +kernel) rfl⟩
set_option maxRecDepth 100000 in
theorem kc_X7_mean : Cond.code yX7_mean cX7_mean 4 (some .int) ∈ wA := tA 292 (by decide +kernel) rfl
set_option maxRecDepth 100000 in
theorem ki_X7_mean : Cond.instanceMethod yX7_mean ∈ wA ∧ Cond.selects RX7 yX7_mean yX7_mean ∈ wA ∧ Cond.initialized RX7 ∈ wA := ⟨tA 290 (by decide +kernel) rfl, tA 291 (by decide +kernel) rfl, tA 1 (by decide +kernel) rfl⟩
set_option maxRecDepth 100000 in
theorem kc_X7_text : Cond.code yX7_text cX7_text 3 (some .int) ∈ wA := tA 300 (by decide +kernel) rfl
set_option maxRecDepth 100000 in
theorem ki_X7_text : Cond.instanceMethod yX7_text ∈ wA ∧ Cond.selects RX7 yX7_text yX7_text ∈ wA ∧ Cond.initialized RX7 ∈ wA := ⟨tA 298 (by decide +kernel) rfl, tA 299 (by decide +kernel) rfl, tA 1 (by decide +kernel) rfl⟩
set_option maxRecDepth 100000 in
theorem kc_X7_put : Cond.code yX7_put cX7_put 6 (some .int) ∈ wA := tA 304 (by decide +kernel) rfl
set_option maxRecDepth 100000 in
theorem ki_X7_put : Cond.instanceMethod yX7_put ∈ wA ∧ Cond.selects RX7 yX7_put yX7_put ∈ wA ∧ Cond.initialized RX7 ∈ wA := ⟨tA 302 (by decide +kernel) rfl, tA 303 (by decide +kernel) rfl, tA 1 (by decide +kernel) rfl⟩
set_option maxRecDepth 100000 in
theorem kc_X7_fault : Cond.code yX7_fault cX7_fault 3 (some .int) ∈ wA := tA 308 (by decide +kernel) rfl
set_option maxRecDepth 100000 in
theorem ki_X7_fault : Cond.instanceMethod yX7_fault ∈ wA ∧ Cond.selects RX7 yX7_fault yX7_fault ∈ wA ∧ Cond.initialized RX7 ∈ wA := ⟨tA 306 (by decide +kernel) rfl, tA 307 (by decide +kernel) rfl, tA 1 (by decide +kernel) rfl⟩
set_option maxRecDepth 100000 in
theorem kc_X7_court : Cond.code yX7_court cX7_court 4 (some .int) ∈ wA := tA 339 (by decide +kernel) rfl
set_option maxRecDepth 100000 in
theorem ki_X7_court : Cond.instanceMethod yX7_court ∈ wA ∧ Cond.selects RX7 yX7_court yX7_court ∈ wA ∧ Cond.initialized RX7 ∈ wA := ⟨tA 337 (by decide +kernel) rfl, tA 338 (by decide +kernel) rfl, tA 1 (by decide +kernel) rfl⟩
set_option maxRecDepth 100000 in
theorem kc_X7_man : Cond.code yX7_man cX7_man 3 (some .int) ∈ wA := tA 412 (by decide +kernel) rfl
set_option maxRecDepth 100000 in
theorem ki_X7_man : Cond.instanceMethod yX7_man ∈ wA ∧ Cond.selects RX7 yX7_man yX7_man ∈ wA ∧ Cond.initialized RX7 ∈ wA := ⟨tA 410 (by decide +kernel) rfl, tA 411 (by decide +kernel) rfl, tA 1 (by decide +kernel) rfl⟩
set_option maxRecDepth 100000 in
theorem kc_X7_mark : Cond.code yX7_mark cX7_mark 4 (some .int) ∈ wA := tA 424 (by decide +kernel) rfl
set_option maxRecDepth 100000 in
theorem ki_X7_mark : Cond.instanceMethod yX7_mark ∈ wA ∧ Cond.selects RX7 yX7_mark yX7_mark ∈ wA ∧ Cond.initialized RX7 ∈ wA := ⟨tA 422 (by decide +kernel) rfl, tA 423 (by decide +kernel) rfl, tA 1 (by decide +kernel) rfl⟩
set_option maxRecDepth 100000 in
theorem kc_X7_heat : Cond.code yX7_heat cX7_heat 2 (some .int) ∈ wA := tA 448 (by decide +kernel) rfl
set_option maxRecDepth 100000 in
theorem ki_X7_heat : Cond.instanceMethod yX7_heat ∈ wA ∧ Cond.selects RX7 yX7_heat yX7_heat ∈ wA ∧ Cond.initialized RX7 ∈ wA := ⟨tA 446 (by decide +kernel) rfl, tA 447 (by decide +kernel) rfl, tA 1 (by decide +kernel) rfl⟩
set_option maxRecDepth 100000 in
theorem kc_X7_salve : Cond.code yX7_salve cX7_salve 3 (some .int) ∈ wA := tA 465 (by decide +kernel) rfl
set_option maxRecDepth 100000 in
theorem ki_X7_salve : Cond.instanceMethod yX7_salve ∈ wA ∧ Cond.selects RX7 yX7_salve yX7_salve ∈ wA ∧ Cond.initialized RX7 ∈ wA := ⟨tA 463 (by decide +kernel) rfl, tA 464 (by decide +kernel) rfl, tA 1 (by decide +kernel) rfl⟩
set_option maxRecDepth 100000 in
theorem kc_X7_trial : Cond.code yX7_trial cX7_trial 3 (some .int) ∈ wA := tA 473 (by decide +kernel) rfl
set_option maxRecDepth 100000 in
theorem ki_X7_trial : Cond.instanceMethod yX7_trial ∈ wA ∧ Cond.selects RX7 yX7_trial yX7_trial ∈ wA ∧ Cond.initialized RX7 ∈ wA := ⟨tA 471 (by decide +kernel) rfl, tA 472 (by decide +kernel) rfl, tA 1 (by decide +kernel) rfl⟩
set_option maxRecDepth 100000 in
theorem kc_X7_undo : Cond.code yX7_undo cX7_undo 3 (some .int) ∈ wA := tA 477 (by decide +kernel) rfl
set_option maxRecDepth 100000 in
theorem ki_X7_undo : Cond.instanceMethod yX7_undo ∈ wA ∧ Cond.selects RX7 yX7_undo yX7_undo ∈ wA ∧ Cond.initialized RX7 ∈ wA := ⟨tA 475 (by decide +kernel) rfl, tA 476 (by decide +kernel) rfl, tA 1 (by decide +kernel) rfl⟩
set_option maxRecDepth 100000 in
theorem kc_X7_keep : Cond.code yX7_keep cX7_keep 2 (some .int) ∈ wA := tA 482 (by decide +kernel) rfl
set_option maxRecDepth 100000 in
theorem ki_X7_keep : Cond.instanceMethod yX7_keep ∈ wA ∧ Cond.selects RX7 yX7_keep yX7_keep ∈ wA ∧ Cond.initialized RX7 ∈ wA := ⟨tA 480 (by decide +kernel) rfl, tA 481 (by decide +kernel) rfl, tA 1 (by decide +kernel) rfl⟩
set_option maxRecDepth 100000 in
theorem kc_X7_on : Cond.code yX7_on cX7_on 2 (some .int) ∈ wA := tA 493 (by decide +kernel) rfl
set_option maxRecDepth 100000 in
theorem ki_X7_on : Cond.instanceMethod yX7_on ∈ wA ∧ Cond.selects RX7 yX7_on yX7_on ∈ wA ∧ Cond.initialized RX7 ∈ wA := ⟨tA 491 (by decide +kernel) rfl, tA 492 (by decide +kernel) rfl, tA 1 (by decide +kernel) rfl⟩
set_option maxRecDepth 100000 in
theorem kc_X7_comes : Cond.code yX7_comes cX7_comes 6 (some .int) ∈ wA := tA 497 (by decide +kernel) rfl
set_option maxRecDepth 100000 in
theorem ki_X7_comes : Cond.instanceMethod yX7_comes ∈ wA ∧ Cond.selects RX7 yX7_comes yX7_comes ∈ wA ∧ Cond.initialized RX7 ∈ wA := ⟨tA 495 (by decide +kernel) rfl, tA 496 (by decide +kernel) rfl, tA 1 (by decide +kernel) rfl⟩
set_option maxRecDepth 100000 in
theorem kc_X7_wrong : Cond.code yX7_wrong cX7_wrong 3 (some .int) ∈ wA := tA 502 (by decide +kernel) rfl
set_option maxRecDepth 100000 in
theorem ki_X7_wrong : Cond.instanceMethod yX7_wrong ∈ wA ∧ Cond.selects RX7 yX7_wrong yX7_wrong ∈ wA ∧ Cond.initialized RX7 ∈ wA := ⟨tA 500 (by decide +kernel) rfl, tA 501 (by decide +kernel) rfl, tA 1 (by decide +kernel) rfl⟩
set_option maxRecDepth 100000 in
theorem kc_X7_best : Cond.code yX7_best cX7_best 5 (some .int) ∈ wA := tA 523 (by decide +kernel) rfl
set_option maxRecDepth 100000 in
theorem ki_X7_best : Cond.instanceMethod yX7_best ∈ wA ∧ Cond.selects RX7 yX7_best yX7_best ∈ wA ∧ Cond.initialized RX7 ∈ wA := ⟨tA 521 (by decide +kernel) rfl, tA 522 (by decide +kernel) rfl, tA 1 (by decide +kernel) rfl⟩
set_option maxRecDepth 100000 in
theorem kc_X7_heats : Cond.code yX7_heats cX7_heats 3 (some .int) ∈ wA := tA 527 (by decide +kernel) rfl
set_option maxRecDepth 100000 in
theorem ki_X7_heats : Cond.instanceMethod yX7_heats ∈ wA ∧ Cond.selects RX7 yX7_heats yX7_heats ∈ wA ∧ Cond.initialized RX7 ∈ wA := ⟨tA 525 (by decide +kernel) rfl, tA 526 (by decide +kernel) rfl, tA 1 (by decide +kernel) rfl⟩
set_option maxRecDepth 100000 in
theorem kc_X7_tells : Cond.code yX7_tells cX7_tells 7 (some .int) ∈ wA := tA 535 (by decide +kernel) rfl
set_option maxRecDepth 100000 in
theorem ki_X7_tells : Cond.instanceMethod yX7_tells ∈ wA ∧ Cond.selects RX7 yX7_tells yX7_tells ∈ wA ∧ Cond.initialized RX7 ∈ wA := ⟨tA 533 (by decide +kernel) rfl, tA 534 (by decide +kernel) rfl, tA 1 (by decide +kernel) rfl⟩
set_option maxRecDepth 100000 in
theorem kc_X7_order : Cond.code yX7_order cX7_order 3 (some .int) ∈ wA := tA 546 (by decide +kernel) rfl
set_option maxRecDepth 100000 in
theorem ki_X7_order : Cond.instanceMethod yX7_order ∈ wA ∧ Cond.selects RX7 yX7_order yX7_order ∈ wA ∧ Cond.initialized RX7 ∈ wA := ⟨tA 544 (by decide +kernel) rfl, tA 545 (by decide +kernel) rfl, tA 1 (by decide +kernel) rfl⟩
set_option maxRecDepth 100000 in
theorem kc_X7_tried : Cond.code yX7_tried cX7_tried 11 (some .int) ∈ wA := tA 578 (by decide +kernel) rfl
set_option maxRecDepth 100000 in
theorem ki_X7_tried : Cond.instanceMethod yX7_tried ∈ wA ∧ Cond.selects RX7 yX7_tried yX7_tried ∈ wA ∧ Cond.initialized RX7 ∈ wA := ⟨tA 576 (by decide +kernel) rfl, tA 577 (by decide +kernel) rfl, tA 1 (by decide +kernel) rfl⟩
set_option maxRecDepth 100000 in
theorem kc_X7_least : Cond.code yX7_least cX7_least 6 (some .int) ∈ wA := tA 590 (by decide +kernel) rfl
set_option maxRecDepth 100000 in
theorem ki_X7_least : Cond.instanceMethod yX7_least ∈ wA ∧ Cond.selects RX7 yX7_least yX7_least ∈ wA ∧ Cond.initialized RX7 ∈ wA := ⟨tA 588 (by decide +kernel) rfl, tA 589 (by decide +kernel) rfl, tA 1 (by decide +kernel) rfl⟩
set_option maxRecDepth 100000 in
theorem kc_X7_fits : Cond.code yX7_fits cX7_fits 4 (some .int) ∈ wA := tA 602 (by decide +kernel) rfl
set_option maxRecDepth 100000 in
theorem ki_X7_fits : Cond.instanceMethod yX7_fits ∈ wA ∧ Cond.selects RX7 yX7_fits yX7_fits ∈ wA ∧ Cond.initialized RX7 ∈ wA := ⟨tA 600 (by decide +kernel) rfl, tA 601 (by decide +kernel) rfl, tA 1 (by decide +kernel) rfl⟩
set_option maxRecDepth 100000 in
theorem kc_X7_ask : Cond.code yX7_ask cX7_ask 8 (some .int) ∈ wA := tA 620 (by decide +kernel) rfl
set_option maxRecDepth 100000 in
theorem ki_X7_ask : Cond.instanceMethod yX7_ask ∈ wA ∧ Cond.selects RX7 yX7_ask yX7_ask ∈ wA ∧ Cond.initialized RX7 ∈ wA := ⟨tA 618 (by decide +kernel) rfl, tA 619 (by decide +kernel) rfl, tA 1 (by decide +kernel) rfl⟩
set_option maxRecDepth 100000 in
theorem kc_X7_hands : Cond.code yX7_hands cX7_hands 7 (some .int) ∈ wA := tA 629 (by decide +kernel) rfl
set_option maxRecDepth 100000 in
theorem ki_X7_hands : Cond.instanceMethod yX7_hands ∈ wA ∧ Cond.selects RX7 yX7_hands yX7_hands ∈ wA ∧ Cond.initialized RX7 ∈ wA := ⟨tA 627 (by decide +kernel) rfl, tA 628 (by decide +kernel) rfl, tA 1 (by decide +kernel) rfl⟩
set_option maxRecDepth 100000 in
theorem kc_X7_kinds : Cond.code yX7_kinds cX7_kinds 7 (some .int) ∈ wA := tA 642 (by decide +kernel) rfl
set_option maxRecDepth 100000 in
theorem ki_X7_kinds : Cond.instanceMethod yX7_kinds ∈ wA ∧ Cond.selects RX7 yX7_kinds yX7_kinds ∈ wA ∧ Cond.initialized RX7 ∈ wA := ⟨tA 640 (by decide +kernel) rfl, tA 641 (by decide +kernel) rfl, tA 1 (by decide +kernel) rfl⟩
set_option maxRecDepth 100000 in
theorem kc_X7_duel : Cond.code yX7_duel cX7_duel 2 (some .int) ∈ wA := tA 646 (by decide +kernel) rfl
set_option maxRecDepth 100000 in
theorem ki_X7_duel : Cond.instanceMethod yX7_duel ∈ wA ∧ Cond.selects RX7 yX7_duel yX7_duel ∈ wA ∧ Cond.initialized RX7 ∈ wA := ⟨tA 644 (by decide +kernel) rfl, tA 645 (by decide +kernel) rfl, tA 1 (by decide +kernel) rfl⟩
set_option maxRecDepth 100000 in
theorem kc_X7_odds : Cond.code yX7_odds cX7_odds 9 (some .int) ∈ wA := tA 665 (by decide +kernel) rfl
set_option maxRecDepth 100000 in
theorem ki_X7_odds : Cond.instanceMethod yX7_odds ∈ wA ∧ Cond.selects RX7 yX7_odds yX7_odds ∈ wA ∧ Cond.initialized RX7 ∈ wA := ⟨tA 663 (by decide +kernel) rfl, tA 664 (by decide +kernel) rfl, tA 1 (by decide +kernel) rfl⟩
set_option maxRecDepth 100000 in
theorem kc_X7_mid : Cond.code yX7_mid cX7_mid 7 (some .int) ∈ wA := tA 678 (by decide +kernel) rfl
set_option maxRecDepth 100000 in
theorem ki_X7_mid : Cond.instanceMethod yX7_mid ∈ wA ∧ Cond.selects RX7 yX7_mid yX7_mid ∈ wA ∧ Cond.initialized RX7 ∈ wA := ⟨tA 676 (by decide +kernel) rfl, tA 677 (by decide +kernel) rfl, tA 1 (by decide +kernel) rfl⟩
set_option maxRecDepth 100000 in
theorem kc_X7_lots : Cond.code yX7_lots cX7_lots 9 (some .int) ∈ wA := tA 683 (by decide +kernel) rfl
set_option maxRecDepth 100000 in
theorem ki_X7_lots : Cond.instanceMethod yX7_lots ∈ wA ∧ Cond.selects RX7 yX7_lots yX7_lots ∈ wA ∧ Cond.initialized RX7 ∈ wA := ⟨tA 681 (by decide +kernel) rfl, tA 682 (by decide +kernel) rfl, tA 1 (by decide +kernel) rfl⟩
set_option maxRecDepth 100000 in
theorem kc_X7_asked : Cond.code yX7_asked cX7_asked 1 (some .int) ∈ wA := tA 701 (by decide +kernel) rfl
set_option maxRecDepth 100000 in
theorem ki_X7_asked : Cond.instanceMethod yX7_asked ∈ wA ∧ Cond.selects RX7 yX7_asked yX7_asked ∈ wA ∧ Cond.initialized RX7 ∈ wA := ⟨tA 699 (by decide +kernel) rfl, tA 700 (by decide +kernel) rfl, tA 1 (by decide +kernel) rfl⟩
set_option maxRecDepth 100000 in
theorem kc_X7_upper : Cond.code yX7_upper cX7_upper 1 (some .long) ∈ wA := tA 705 (by decide +kernel) rfl
set_option maxRecDepth 100000 in
theorem ki_X7_upper : Cond.instanceMethod yX7_upper ∈ wA ∧ Cond.selects RX7 yX7_upper yX7_upper ∈ wA ∧ Cond.initialized RX7 ∈ wA := ⟨tA 703 (by decide +kernel) rfl, tA 704 (by decide +kernel) rfl, tA 1 (by decide +kernel) rfl⟩
set_option maxRecDepth 100000 in
theorem kc_X7_lower : Cond.code yX7_lower cX7_lower 1 (some .long) ∈ wA := tA 709 (by decide +kernel) rfl
set_option maxRecDepth 100000 in
theorem ki_X7_lower : Cond.instanceMethod yX7_lower ∈ wA ∧ Cond.selects RX7 yX7_lower yX7_lower ∈ wA ∧ Cond.initialized RX7 ∈ wA := ⟨tA 707 (by decide +kernel) rfl, tA 708 (by decide +kernel) rfl, tA 1 (by decide +kernel) rfl⟩
set_option maxRecDepth 100000 in
theorem kc_X7_count : Cond.code yX7_count cX7_count 2 (some .int) ∈ wA := tA 713 (by decide +kernel) rfl
set_option maxRecDepth 100000 in
theorem ki_X7_count : Cond.instanceMethod yX7_count ∈ wA ∧ Cond.selects RX7 yX7_count yX7_count ∈ wA ∧ Cond.initialized RX7 ∈ wA := ⟨tA 711 (by decide +kernel) rfl, tA 712 (by decide +kernel) rfl, tA 1 (by decide +kernel) rfl⟩
set_option maxRecDepth 100000 in
theorem kc_X7_finding : Cond.code yX7_finding cX7_finding 1 (some .int) ∈ wA := tA 733 (by decide +kernel) rfl
set_option maxRecDepth 100000 in
theorem ki_X7_finding : Cond.instanceMethod yX7_finding ∈ wA ∧ Cond.selects RX7 yX7_finding yX7_finding ∈ wA ∧ Cond.initialized RX7 ∈ wA := ⟨tA 731 (by decide +kernel) rfl, tA 732 (by decide +kernel) rfl, tA 1 (by decide +kernel) rfl⟩
set_option maxRecDepth 100000 in
theorem kc_X7_findings : Cond.code yX7_findings cX7_findings 2 (some .int) ∈ wA := tA 737 (by decide +kernel) rfl
set_option maxRecDepth 100000 in
theorem ki_X7_findings : Cond.instanceMethod yX7_findings ∈ wA ∧ Cond.selects RX7 yX7_findings yX7_findings ∈ wA ∧ Cond.initialized RX7 ∈ wA := ⟨tA 735 (by decide +kernel) rfl, tA 736 (by decide +kernel) rfl, tA 1 (by decide +kernel) rfl⟩
set_option maxRecDepth 100000 in
theorem kc_X7_digest : Cond.code yX7_digest cX7_digest 5 (some .long) ∈ wA := tA 741 (by decide +kernel) rfl
set_option maxRecDepth 100000 in
theorem ki_X7_digest : Cond.instanceMethod yX7_digest ∈ wA ∧ Cond.selects RX7 yX7_digest yX7_digest ∈ wA ∧ Cond.initialized RX7 ∈ wA := ⟨tA 739 (by decide +kernel) rfl, tA 740 (by decide +kernel) rfl, tA 1 (by decide +kernel) rfl⟩
set_option maxRecDepth 100000 in
theorem kc_X7_found : Cond.code yX7_found cX7_found 2 (some .int) ∈ wA := tA 249 (by decide +kernel) rfl
set_option maxRecDepth 100000 in
theorem ki_X7_found : Cond.instanceMethod yX7_found ∈ wA ∧ Cond.selects RX7 yX7_found yX7_found ∈ wA ∧ Cond.initialized RX7 ∈ wA := ⟨tA 248 (by decide +kernel) rfl, tAp 1 (by decide +kernel), tA 1 (by decide +kernel) rfl⟩
set_option maxRecDepth 100000 in
theorem kc_X7_isOneOf : Cond.code yX7_isOneOf cX7_isOneOf 2 (some .boolean) ∈ wA := tA 245 (by decide +kernel) rfl
set_option maxRecDepth 100000 in
theorem ki_X7_isOneOf : Cond.static yX7_isOneOf ∈ wA ∧ Cond.initialized RX7 ∈ wA := ⟨tA 244 (by decide +kernel) rfl, tA 1 (by decide +kernel) rfl⟩
set_option maxRecDepth 100000 in
theorem kc_X7_isMan : Cond.code yX7_isMan cX7_isMan 2 (some .boolean) ∈ wA := tA 416 (by decide +kernel) rfl
set_option maxRecDepth 100000 in
theorem ki_X7_isMan : Cond.instanceMethod yX7_isMan ∈ wA ∧ Cond.selects RX7 yX7_isMan yX7_isMan ∈ wA ∧ Cond.initialized RX7 ∈ wA := ⟨tA 415 (by decide +kernel) rfl, tAp 10 (by decide +kernel), tA 1 (by decide +kernel) rfl⟩
set_option maxRecDepth 100000 in
theorem kc_X7_isKeptPlace : Cond.code yX7_isKeptPlace cX7_isKeptPlace 1 (some .boolean) ∈ wA := tA 485 (by decide +kernel) rfl
set_option maxRecDepth 100000 in
theorem ki_X7_isKeptPlace : Cond.static yX7_isKeptPlace ∈ wA ∧ Cond.initialized RX7 ∈ wA := ⟨tA 484 (by decide +kernel) rfl, tA 1 (by decide +kernel) rfl⟩
set_option maxRecDepth 100000 in
theorem kc_X7_missingRefusal : Cond.code yX7_missingRefusal cX7_missingRefusal 3 (some .int) ∈ wA := tA 265 (by decide +kernel) rfl
set_option maxRecDepth 100000 in
theorem ki_X7_missingRefusal : Cond.instanceMethod yX7_missingRefusal ∈ wA ∧ Cond.selects RX7 yX7_missingRefusal yX7_missingRefusal ∈ wA ∧ Cond.initialized RX7 ∈ wA := ⟨tA 264 (by decide +kernel) rfl, tAp 3 (by decide +kernel), tA 1 (by decide +kernel) rfl⟩
set_option maxRecDepth 100000 in
theorem kc_X7_placeRefusal : Cond.code yX7_placeRefusal cX7_placeRefusal 5 (some .int) ∈ wA := tA 261 (by decide +kernel) rfl
set_option maxRecDepth 100000 in
theorem ki_X7_placeRefusal : Cond.instanceMethod yX7_placeRefusal ∈ wA ∧ Cond.selects RX7 yX7_placeRefusal yX7_placeRefusal ∈ wA ∧ Cond.initialized RX7 ∈ wA := ⟨tA 260 (by decide +kernel) rfl, tAp 2 (by decide +kernel), tA 1 (by decide +kernel) rfl⟩
set_option maxRecDepth 100000 in
theorem kc_X7_laidOut : Cond.code yX7_laidOut cX7_laidOut 5 (some .int) ∈ wA := tA 242 (by decide +kernel) rfl
set_option maxRecDepth 100000 in
theorem ki_X7_laidOut : Cond.instanceMethod yX7_laidOut ∈ wA ∧ Cond.selects RX7 yX7_laidOut yX7_laidOut ∈ wA ∧ Cond.initialized RX7 ∈ wA := ⟨tA 241 (by decide +kernel) rfl, tAp 0 (by decide +kernel), tA 1 (by decide +kernel) rfl⟩
set_option maxRecDepth 100000 in
theorem kc_X7_rowRefusal : Cond.code yX7_rowRefusal cX7_rowRefusal 2 (some .int) ∈ wA := tA 550 (by decide +kernel) rfl
set_option maxRecDepth 100000 in
theorem ki_X7_rowRefusal : Cond.instanceMethod yX7_rowRefusal ∈ wA ∧ Cond.selects RX7 yX7_rowRefusal yX7_rowRefusal ∈ wA ∧ Cond.initialized RX7 ∈ wA := ⟨tA 549 (by decide +kernel) rfl, tAp 14 (by decide +kernel), tA 1 (by decide +kernel) rfl⟩
set_option maxRecDepth 100000 in
theorem kc_X7_heatRefusal : Cond.code yX7_heatRefusal cX7_heatRefusal 2 (some .int) ∈ wA := tA 506 (by decide +kernel) rfl
set_option maxRecDepth 100000 in
theorem ki_X7_heatRefusal : Cond.instanceMethod yX7_heatRefusal ∈ wA ∧ Cond.selects RX7 yX7_heatRefusal yX7_heatRefusal ∈ wA ∧ Cond.initialized RX7 ∈ wA := ⟨tA 505 (by decide +kernel) rfl, tAp 11 (by decide +kernel), tA 1 (by decide +kernel) rfl⟩
set_option maxRecDepth 100000 in
theorem kc_X7_chanceRefusal : Cond.code yX7_chanceRefusal cX7_chanceRefusal 2 (some .int) ∈ wA := tA 669 (by decide +kernel) rfl
set_option maxRecDepth 100000 in
theorem ki_X7_chanceRefusal : Cond.instanceMethod yX7_chanceRefusal ∈ wA ∧ Cond.selects RX7 yX7_chanceRefusal yX7_chanceRefusal ∈ wA ∧ Cond.initialized RX7 ∈ wA := ⟨tA 668 (by decide +kernel) rfl, tAp 20 (by decide +kernel), tA 1 (by decide +kernel) rfl⟩
set_option maxRecDepth 100000 in
theorem kc_X7_trialsRefusal : Cond.code yX7_trialsRefusal cX7_trialsRefusal 4 (some .int) ∈ wA := tA 606 (by decide +kernel) rfl
set_option maxRecDepth 100000 in
theorem ki_X7_trialsRefusal : Cond.instanceMethod yX7_trialsRefusal ∈ wA ∧ Cond.selects RX7 yX7_trialsRefusal yX7_trialsRefusal ∈ wA ∧ Cond.initialized RX7 ∈ wA := ⟨tA 605 (by decide +kernel) rfl, tAp 17 (by decide +kernel), tA 1 (by decide +kernel) rfl⟩
set_option maxRecDepth 100000 in
theorem kc_X7_suppositionRefusal : Cond.code yX7_suppositionRefusal cX7_suppositionRefusal 4 (some .int) ∈ wA := tA 633 (by decide +kernel) rfl
set_option maxRecDepth 100000 in
theorem ki_X7_suppositionRefusal : Cond.instanceMethod yX7_suppositionRefusal ∈ wA ∧ Cond.selects RX7 yX7_suppositionRefusal yX7_suppositionRefusal ∈ wA ∧ Cond.initialized RX7 ∈ wA := ⟨tA 632 (by decide +kernel) rfl, tAp 18 (by decide +kernel), tA 1 (by decide +kernel) rfl⟩
set_option maxRecDepth 100000 in
theorem kc_X7_pairsFinding : Cond.code yX7_pairsFinding cX7_pairsFinding 4 (some .int) ∈ wA := tA 609 (by decide +kernel) rfl
set_option maxRecDepth 100000 in
theorem ki_X7_pairsFinding : Cond.static yX7_pairsFinding ∈ wA ∧ Cond.initialized RX7 ∈ wA := ⟨tA 608 (by decide +kernel) rfl, tA 1 (by decide +kernel) rfl⟩
set_option maxRecDepth 100000 in
theorem kc_X7_orderFinding : Cond.code yX7_orderFinding cX7_orderFinding 5 (some .int) ∈ wA := tA 582 (by decide +kernel) rfl
set_option maxRecDepth 100000 in
theorem ki_X7_orderFinding : Cond.instanceMethod yX7_orderFinding ∈ wA ∧ Cond.selects RX7 yX7_orderFinding yX7_orderFinding ∈ wA ∧ Cond.initialized RX7 ∈ wA := ⟨tA 581 (by decide +kernel) rfl, tAp 16 (by decide +kernel), tA 1 (by decide +kernel) rfl⟩
set_option maxRecDepth 100000 in
theorem kc_X7_tellFraction : Cond.code yX7_tellFraction cX7_tellFraction 7 none ∈ wA := tA 539 (by decide +kernel) rfl
set_option maxRecDepth 100000 in
theorem ki_X7_tellFraction : Cond.instanceMethod yX7_tellFraction ∈ wA ∧ Cond.selects RX7 yX7_tellFraction yX7_tellFraction ∈ wA ∧ Cond.initialized RX7 ∈ wA := ⟨tA 538 (by decide +kernel) rfl, tAp 13 (by decide +kernel), tA 1 (by decide +kernel) rfl⟩
set_option maxRecDepth 100000 in
theorem kc_X7_commonDivisor : Cond.code yX7_commonDivisor cX7_commonDivisor 11 (some .long) ∈ wA := tA 542 (by decide +kernel) rfl
set_option maxRecDepth 100000 in
theorem ki_X7_commonDivisor : Cond.static yX7_commonDivisor ∈ wA ∧ Cond.initialized RX7 ∈ wA := ⟨tA 541 (by decide +kernel) rfl, tA 1 (by decide +kernel) rfl⟩
set_option maxRecDepth 100000 in
theorem kc_X7_howManyThere : Cond.code yX7_howManyThere cX7_howManyThere 3 (some .int) ∈ wA := tA 725 (by decide +kernel) rfl
set_option maxRecDepth 100000 in
theorem ki_X7_howManyThere : Cond.static yX7_howManyThere ∈ wA ∧ Cond.initialized RX7 ∈ wA := ⟨tA 724 (by decide +kernel) rfl, tA 1 (by decide +kernel) rfl⟩
set_option maxRecDepth 100000 in
theorem kc_X7_courtsKept : Cond.code yX7_courtsKept cX7_courtsKept 3 (some .int) ∈ wA := tA 729 (by decide +kernel) rfl
set_option maxRecDepth 100000 in
theorem ki_X7_courtsKept : Cond.instanceMethod yX7_courtsKept ∈ wA ∧ Cond.selects RX7 yX7_courtsKept yX7_courtsKept ∈ wA ∧ Cond.initialized RX7 ∈ wA := ⟨tA 728 (by decide +kernel) rfl, tAp 21 (by decide +kernel), tA 1 (by decide +kernel) rfl⟩
set_option maxRecDepth 100000 in
theorem kc_X8_init : Cond.code yX8_init cX8_init 1 none ∈ wA := tA 754 (by decide +kernel) rfl
set_option maxRecDepth 100000 in
theorem ki_X8_init : Cond.instanceMethod yX8_init ∈ wA ∧ Cond.initialized RX8 ∈ wA := ⟨tA 753 (by decide +kernel) rfl, tA 9 (by decide +kernel) rfl⟩
set_option maxRecDepth 100000 in
theorem kc_X8_layBegun : Cond.code yX8_layBegun cX8_layBegun 2 none ∈ wA := tA 759 (by decide +kernel) rfl
set_option maxRecDepth 100000 in
theorem ki_X8_layBegun : Cond.instanceMethod yX8_layBegun ∈ wA ∧ Cond.selects RX8 yX8_layBegun yX8_layBegun ∈ wA ∧ Cond.initialized RX8 ∈ wA := ⟨tA 758 (by decide +kernel) rfl, tAp 22 (by decide +kernel), tA 9 (by decide +kernel) rfl⟩
set_option maxRecDepth 100000 in
theorem kc_X8_bits : Cond.code yX8_bits cX8_bits 3 (some .int) ∈ wA := tA 1150 (by decide +kernel) rfl
set_option maxRecDepth 100000 in
theorem ki_X8_bits : Cond.static yX8_bits ∈ wA ∧ Cond.initialized RX8 ∈ wA := ⟨tA 1149 (by decide +kernel) rfl, tA 9 (by decide +kernel) rfl⟩
set_option maxRecDepth 100000 in
theorem kc_X8_some : Cond.code yX8_some cX8_some 1 (some .int) ∈ wA := tA 986 (by decide +kernel) rfl
set_option maxRecDepth 100000 in
theorem ki_X8_some : Cond.static yX8_some ∈ wA ∧ Cond.initialized RX8 ∈ wA := ⟨tA 985 (by decide +kernel) rfl, tA 9 (by decide +kernel) rfl⟩
set_option maxRecDepth 100000 in
theorem kc_X8_in : Cond.code yX8_in cX8_in 6 (some .boolean) ∈ wA := tA 861 (by decide +kernel) rfl
set_option maxRecDepth 100000 in
theorem ki_X8_in : Cond.static yX8_in ∈ wA ∧ Cond.initialized RX8 ∈ wA := ⟨tA 860 (by decide +kernel) rfl, tA 9 (by decide +kernel) rfl⟩
set_option maxRecDepth 100000 in
theorem kc_X8_has : Cond.code yX8_has cX8_has 2 (some .boolean) ∈ wA := tA 1041 (by decide +kernel) rfl
set_option maxRecDepth 100000 in
theorem ki_X8_has : Cond.static yX8_has ∈ wA ∧ Cond.initialized RX8 ∈ wA := ⟨tA 1040 (by decide +kernel) rfl, tA 9 (by decide +kernel) rfl⟩
set_option maxRecDepth 100000 in
theorem kc_X8_find : Cond.code yX8_find cX8_find 2 (some .int) ∈ wA := tA 865 (by decide +kernel) rfl
set_option maxRecDepth 100000 in
theorem ki_X8_find : Cond.instanceMethod yX8_find ∈ wA ∧ Cond.selects RX8 yX8_find yX8_find ∈ wA ∧ Cond.initialized RX8 ∈ wA := ⟨tA 864 (by decide +kernel) rfl, tAp 23 (by decide +kernel), tA 9 (by decide +kernel) rfl⟩
set_option maxRecDepth 100000 in
theorem kc_X8_tell : Cond.code yX8_tell cX8_tell 2 (some .int) ∈ wA := tA 881 (by decide +kernel) rfl
set_option maxRecDepth 100000 in
theorem ki_X8_tell : Cond.instanceMethod yX8_tell ∈ wA ∧ Cond.selects RX8 yX8_tell yX8_tell ∈ wA ∧ Cond.initialized RX8 ∈ wA := ⟨tA 880 (by decide +kernel) rfl, tAp 26 (by decide +kernel), tA 9 (by decide +kernel) rfl⟩
set_option maxRecDepth 100000 in
theorem kc_X8_isRow : Cond.code yX8_isRow cX8_isRow 1 (some .boolean) ∈ wA := tA 857 (by decide +kernel) rfl
set_option maxRecDepth 100000 in
theorem ki_X8_isRow : Cond.static yX8_isRow ∈ wA ∧ Cond.initialized RX8 ∈ wA := ⟨tA 856 (by decide +kernel) rfl, tA 9 (by decide +kernel) rfl⟩
set_option maxRecDepth 100000 in
theorem kc_X8_isText : Cond.code yX8_isText cX8_isText 1 (some .boolean) ∈ wA := tA 908 (by decide +kernel) rfl
set_option maxRecDepth 100000 in
theorem ki_X8_isText : Cond.static yX8_isText ∈ wA ∧ Cond.initialized RX8 ∈ wA := ⟨tA 907 (by decide +kernel) rfl, tA 9 (by decide +kernel) rfl⟩
set_option maxRecDepth 100000 in
theorem kc_X8_row : Cond.code yX8_row cX8_row 3 (some .int) ∈ wA := tA 854 (by decide +kernel) rfl
set_option maxRecDepth 100000 in
theorem ki_X8_row : Cond.instanceMethod yX8_row ∈ wA ∧ Cond.selects RX8 yX8_row yX8_row ∈ wA ∧ Cond.initialized RX8 ∈ wA := ⟨tA 852 (by decide +kernel) rfl, tA 853 (by decide +kernel) rfl, tA 9 (by decide +kernel) rfl⟩
set_option maxRecDepth 100000 in
theorem kc_X8_makeRow : Cond.code yX8_makeRow cX8_makeRow 4 none ∈ wA := tA 869 (by decide +kernel) rfl
set_option maxRecDepth 100000 in
theorem ki_X8_makeRow : Cond.instanceMethod yX8_makeRow ∈ wA ∧ Cond.selects RX8 yX8_makeRow yX8_makeRow ∈ wA ∧ Cond.initialized RX8 ∈ wA := ⟨tA 868 (by decide +kernel) rfl, tAp 24 (by decide +kernel), tA 9 (by decide +kernel) rfl⟩
set_option maxRecDepth 100000 in
theorem kc_X8_refused : Cond.code yX8_refused cX8_refused 3 (some .int) ∈ wA := tA 877 (by decide +kernel) rfl
set_option maxRecDepth 100000 in
theorem ki_X8_refused : Cond.instanceMethod yX8_refused ∈ wA ∧ Cond.selects RX8 yX8_refused yX8_refused ∈ wA ∧ Cond.initialized RX8 ∈ wA := ⟨tA 876 (by decide +kernel) rfl, tAp 25 (by decide +kernel), tA 9 (by decide +kernel) rfl⟩
set_option maxRecDepth 100000 in
theorem kc_X8_lay : Cond.code yX8_lay cX8_lay 6 (some .int) ∈ wA := tA 873 (by decide +kernel) rfl
set_option maxRecDepth 100000 in
theorem ki_X8_lay : Cond.instanceMethod yX8_lay ∈ wA ∧ Cond.selects RX8 yX8_lay yX8_lay ∈ wA ∧ Cond.initialized RX8 ∈ wA := ⟨tA 871 (by decide +kernel) rfl, tA 872 (by decide +kernel) rfl, tA 9 (by decide +kernel) rfl⟩
set_option maxRecDepth 100000 in
theorem kc_X8_at : Cond.code yX8_at cX8_at 4 (some .int) ∈ wA := tA 885 (by decide +kernel) rfl
set_option maxRecDepth 100000 in
theorem ki_X8_at : Cond.instanceMethod yX8_at ∈ wA ∧ Cond.selects RX8 yX8_at yX8_at ∈ wA ∧ Cond.initialized RX8 ∈ wA := ⟨tA 883 (by decide +kernel) rfl, tA 884 (by decide +kernel) rfl, tA 9 (by decide +kernel) rfl⟩
set_option maxRecDepth 100000 in
theorem kc_X8_tear : Cond.code yX8_tear cX8_tear 2 (some .int) ∈ wA := tA 889 (by decide +kernel) rfl
set_option maxRecDepth 100000 in
theorem ki_X8_tear : Cond.instanceMethod yX8_tear ∈ wA ∧ Cond.selects RX8 yX8_tear yX8_tear ∈ wA ∧ Cond.initialized RX8 ∈ wA := ⟨tA 887 (by decide +kernel) rfl, tA 888 (by decide +kernel) rfl, tA 9 (by decide +kernel) rfl⟩
set_option maxRecDepth 100000 in
theorem kc_X8_isSpan : Cond.code yX8_isSpan cX8_isSpan 4 (some .boolean) ∈ wA := tA 897 (by decide +kernel) rfl
set_option maxRecDepth 100000 in
theorem ki_X8_isSpan : Cond.instanceMethod yX8_isSpan ∈ wA ∧ Cond.selects RX8 yX8_isSpan yX8_isSpan ∈ wA ∧ Cond.initialized RX8 ∈ wA := ⟨tA 896 (by decide +kernel) rfl, tAp 27 (by decide +kernel), tA 9 (by decide +kernel) rfl⟩
set_option maxRecDepth 100000 in
theorem kc_X8_copy : Cond.code yX8_copy cX8_copy 9 (some .int) ∈ wA := tA 893 (by decide +kernel) rfl
set_option maxRecDepth 100000 in
theorem ki_X8_copy : Cond.instanceMethod yX8_copy ∈ wA ∧ Cond.selects RX8 yX8_copy yX8_copy ∈ wA ∧ Cond.initialized RX8 ∈ wA := ⟨tA 891 (by decide +kernel) rfl, tA 892 (by decide +kernel) rfl, tA 9 (by decide +kernel) rfl⟩
set_option maxRecDepth 100000 in
theorem kc_X8_mean : Cond.code yX8_mean cX8_mean 5 (some .int) ∈ wA := tA 901 (by decide +kernel) rfl
set_option maxRecDepth 100000 in
theorem ki_X8_mean : Cond.instanceMethod yX8_mean ∈ wA ∧ Cond.selects RX8 yX8_mean yX8_mean ∈ wA ∧ Cond.initialized RX8 ∈ wA := ⟨tA 899 (by decide +kernel) rfl, tA 900 (by decide +kernel) rfl, tA 9 (by decide +kernel) rfl⟩
set_option maxRecDepth 100000 in
theorem kc_X8_text : Cond.code yX8_text cX8_text 4 (some .int) ∈ wA := tA 905 (by decide +kernel) rfl
set_option maxRecDepth 100000 in
theorem ki_X8_text : Cond.instanceMethod yX8_text ∈ wA ∧ Cond.selects RX8 yX8_text yX8_text ∈ wA ∧ Cond.initialized RX8 ∈ wA := ⟨tA 903 (by decide +kernel) rfl, tA 904 (by decide +kernel) rfl, tA 9 (by decide +kernel) rfl⟩
set_option maxRecDepth 100000 in
theorem kc_X8_put : Cond.code yX8_put cX8_put 5 (some .int) ∈ wA := tA 913 (by decide +kernel) rfl
set_option maxRecDepth 100000 in
theorem ki_X8_put : Cond.instanceMethod yX8_put ∈ wA ∧ Cond.selects RX8 yX8_put yX8_put ∈ wA ∧ Cond.initialized RX8 ∈ wA := ⟨tA 911 (by decide +kernel) rfl, tA 912 (by decide +kernel) rfl, tA 9 (by decide +kernel) rfl⟩
set_option maxRecDepth 100000 in
theorem kc_X8_here : Cond.code yX8_here cX8_here 1 (some .int) ∈ wA := tA 933 (by decide +kernel) rfl
set_option maxRecDepth 100000 in
theorem ki_X8_here : Cond.instanceMethod yX8_here ∈ wA ∧ Cond.selects RX8 yX8_here yX8_here ∈ wA ∧ Cond.initialized RX8 ∈ wA := ⟨tA 932 (by decide +kernel) rfl, tAp 31 (by decide +kernel), tA 9 (by decide +kernel) rfl⟩
set_option maxRecDepth 100000 in
theorem kc_X8_skip : Cond.code yX8_skip cX8_skip 1 none ∈ wA := tA 929 (by decide +kernel) rfl
set_option maxRecDepth 100000 in
theorem ki_X8_skip : Cond.instanceMethod yX8_skip ∈ wA ∧ Cond.selects RX8 yX8_skip yX8_skip ∈ wA ∧ Cond.initialized RX8 ∈ wA := ⟨tA 928 (by decide +kernel) rfl, tAp 30 (by decide +kernel), tA 9 (by decide +kernel) rfl⟩
set_option maxRecDepth 100000 in
theorem kc_X8_isFigure : Cond.code yX8_isFigure cX8_isFigure 3 (some .boolean) ∈ wA := tA 941 (by decide +kernel) rfl
set_option maxRecDepth 100000 in
theorem ki_X8_isFigure : Cond.instanceMethod yX8_isFigure ∈ wA ∧ Cond.selects RX8 yX8_isFigure yX8_isFigure ∈ wA ∧ Cond.initialized RX8 ∈ wA := ⟨tA 940 (by decide +kernel) rfl, tAp 33 (by decide +kernel), tA 9 (by decide +kernel) rfl⟩
set_option maxRecDepth 100000 in
theorem kc_X8_figure : Cond.code yX8_figure cX8_figure 3 (some .int) ∈ wA := tA 937 (by decide +kernel) rfl
set_option maxRecDepth 100000 in
theorem ki_X8_figure : Cond.instanceMethod yX8_figure ∈ wA ∧ Cond.selects RX8 yX8_figure yX8_figure ∈ wA ∧ Cond.initialized RX8 ∈ wA := ⟨tA 936 (by decide +kernel) rfl, tAp 32 (by decide +kernel), tA 9 (by decide +kernel) rfl⟩
set_option maxRecDepth 100000 in
theorem kc_X8_readsIron : Cond.code yX8_readsIron cX8_readsIron 3 (some .boolean) ∈ wA := tA 925 (by decide +kernel) rfl
set_option maxRecDepth 100000 in
theorem ki_X8_readsIron : Cond.instanceMethod yX8_readsIron ∈ wA ∧ Cond.selects RX8 yX8_readsIron yX8_readsIron ∈ wA ∧ Cond.initialized RX8 ∈ wA := ⟨tA 924 (by decide +kernel) rfl, tAp 29 (by decide +kernel), tA 9 (by decide +kernel) rfl⟩
set_option maxRecDepth 100000 in
theorem kc_X8_kindOfLetter : Cond.code yX8_kindOfLetter cX8_kindOfLetter 1 (some .int) ∈ wA := tA 948 (by decide +kernel) rfl
set_option maxRecDepth 100000 in
theorem ki_X8_kindOfLetter : Cond.static yX8_kindOfLetter ∈ wA ∧ Cond.initialized RX8 ∈ wA := ⟨tA 947 (by decide +kernel) rfl, tA 9 (by decide +kernel) rfl⟩
set_option maxRecDepth 100000 in
theorem kc_X8_readsMan : Cond.code yX8_readsMan cX8_readsMan 5 (some .boolean) ∈ wA := tA 945 (by decide +kernel) rfl
set_option maxRecDepth 100000 in
theorem ki_X8_readsMan : Cond.instanceMethod yX8_readsMan ∈ wA ∧ Cond.selects RX8 yX8_readsMan yX8_readsMan ∈ wA ∧ Cond.initialized RX8 ∈ wA := ⟨tA 944 (by decide +kernel) rfl, tAp 34 (by decide +kernel), tA 9 (by decide +kernel) rfl⟩
set_option maxRecDepth 100000 in
theorem kc_X8_faultOf : Cond.code yX8_faultOf cX8_faultOf 3 (some .int) ∈ wA := tA 921 (by decide +kernel) rfl
set_option maxRecDepth 100000 in
theorem ki_X8_faultOf : Cond.instanceMethod yX8_faultOf ∈ wA ∧ Cond.selects RX8 yX8_faultOf yX8_faultOf ∈ wA ∧ Cond.initialized RX8 ∈ wA := ⟨tA 920 (by decide +kernel) rfl, tAp 28 (by decide +kernel), tA 9 (by decide +kernel) rfl⟩
set_option maxRecDepth 100000 in
theorem kc_X8_fault : Cond.code yX8_fault cX8_fault 2 (some .int) ∈ wA := tA 917 (by decide +kernel) rfl
set_option maxRecDepth 100000 in
theorem ki_X8_fault : Cond.instanceMethod yX8_fault ∈ wA ∧ Cond.selects RX8 yX8_fault yX8_fault ∈ wA ∧ Cond.initialized RX8 ∈ wA := ⟨tA 915 (by decide +kernel) rfl, tA 916 (by decide +kernel) rfl, tA 9 (by decide +kernel) rfl⟩
set_option maxRecDepth 100000 in
theorem kc_X8_court : Cond.code yX8_court cX8_court 3 (some .int) ∈ wA := tA 952 (by decide +kernel) rfl
set_option maxRecDepth 100000 in
theorem ki_X8_court : Cond.instanceMethod yX8_court ∈ wA ∧ Cond.selects RX8 yX8_court yX8_court ∈ wA ∧ Cond.initialized RX8 ∈ wA := ⟨tA 950 (by decide +kernel) rfl, tA 951 (by decide +kernel) rfl, tA 9 (by decide +kernel) rfl⟩
set_option maxRecDepth 100000 in
theorem kc_X8_isMan : Cond.code yX8_isMan cX8_isMan 2 (some .boolean) ∈ wA := tA 960 (by decide +kernel) rfl
set_option maxRecDepth 100000 in
theorem ki_X8_isMan : Cond.instanceMethod yX8_isMan ∈ wA ∧ Cond.selects RX8 yX8_isMan yX8_isMan ∈ wA ∧ Cond.initialized RX8 ∈ wA := ⟨tA 959 (by decide +kernel) rfl, tAp 35 (by decide +kernel), tA 9 (by decide +kernel) rfl⟩
set_option maxRecDepth 100000 in
theorem kc_X8_isClerk : Cond.code yX8_isClerk cX8_isClerk 1 (some .boolean) ∈ wA := tA 971 (by decide +kernel) rfl
set_option maxRecDepth 100000 in
theorem ki_X8_isClerk : Cond.static yX8_isClerk ∈ wA ∧ Cond.initialized RX8 ∈ wA := ⟨tA 970 (by decide +kernel) rfl, tA 9 (by decide +kernel) rfl⟩
set_option maxRecDepth 100000 in
theorem kc_X8_hardBy : Cond.code yX8_hardBy cX8_hardBy 2 (some .int) ∈ wA := tA 968 (by decide +kernel) rfl
set_option maxRecDepth 100000 in
theorem ki_X8_hardBy : Cond.static yX8_hardBy ∈ wA ∧ Cond.initialized RX8 ∈ wA := ⟨tA 967 (by decide +kernel) rfl, tA 9 (by decide +kernel) rfl⟩
set_option maxRecDepth 100000 in
theorem kc_X8_plainFeels : Cond.code yX8_plainFeels cX8_plainFeels 3 (some .int) ∈ wA := tA 983 (by decide +kernel) rfl
set_option maxRecDepth 100000 in
theorem ki_X8_plainFeels : Cond.instanceMethod yX8_plainFeels ∈ wA ∧ Cond.selects RX8 yX8_plainFeels yX8_plainFeels ∈ wA ∧ Cond.initialized RX8 ∈ wA := ⟨tA 982 (by decide +kernel) rfl, tAp 39 (by decide +kernel), tA 9 (by decide +kernel) rfl⟩
set_option maxRecDepth 100000 in
theorem kc_X8_burnsBy : Cond.code yX8_burnsBy cX8_burnsBy 6 (some .int) ∈ wA := tA 979 (by decide +kernel) rfl
set_option maxRecDepth 100000 in
theorem ki_X8_burnsBy : Cond.instanceMethod yX8_burnsBy ∈ wA ∧ Cond.selects RX8 yX8_burnsBy yX8_burnsBy ∈ wA ∧ Cond.initialized RX8 ∈ wA := ⟨tA 978 (by decide +kernel) rfl, tAp 38 (by decide +kernel), tA 9 (by decide +kernel) rfl⟩
set_option maxRecDepth 100000 in
theorem kc_X8_burns : Cond.code yX8_burns cX8_burns 3 (some .int) ∈ wA := tA 975 (by decide +kernel) rfl
set_option maxRecDepth 100000 in
theorem ki_X8_burns : Cond.instanceMethod yX8_burns ∈ wA ∧ Cond.selects RX8 yX8_burns yX8_burns ∈ wA ∧ Cond.initialized RX8 ∈ wA := ⟨tA 974 (by decide +kernel) rfl, tAp 37 (by decide +kernel), tA 9 (by decide +kernel) rfl⟩
set_option maxRecDepth 100000 in
theorem kc_X8_comesBy : Cond.code yX8_comesBy cX8_comesBy 5 (some .boolean) ∈ wA := tA 994 (by decide +kernel) rfl
set_option maxRecDepth 100000 in
theorem ki_X8_comesBy : Cond.instanceMethod yX8_comesBy ∈ wA ∧ Cond.selects RX8 yX8_comesBy yX8_comesBy ∈ wA ∧ Cond.initialized RX8 ∈ wA := ⟨tA 993 (by decide +kernel) rfl, tAp 41 (by decide +kernel), tA 9 (by decide +kernel) rfl⟩
set_option maxRecDepth 100000 in
theorem kc_X8_doesCome : Cond.code yX8_doesCome cX8_doesCome 3 (some .boolean) ∈ wA := tA 990 (by decide +kernel) rfl
set_option maxRecDepth 100000 in
theorem ki_X8_doesCome : Cond.instanceMethod yX8_doesCome ∈ wA ∧ Cond.selects RX8 yX8_doesCome yX8_doesCome ∈ wA ∧ Cond.initialized RX8 ∈ wA := ⟨tA 989 (by decide +kernel) rfl, tAp 40 (by decide +kernel), tA 9 (by decide +kernel) rfl⟩
set_option maxRecDepth 100000 in
theorem kc_X8_bearable : Cond.code yX8_bearable cX8_bearable 3 (some .int) ∈ wA := tA 1002 (by decide +kernel) rfl
set_option maxRecDepth 100000 in
theorem ki_X8_bearable : Cond.instanceMethod yX8_bearable ∈ wA ∧ Cond.selects RX8 yX8_bearable yX8_bearable ∈ wA ∧ Cond.initialized RX8 ∈ wA := ⟨tA 1001 (by decide +kernel) rfl, tAp 43 (by decide +kernel), tA 9 (by decide +kernel) rfl⟩
set_option maxRecDepth 100000 in
theorem kc_X8_isClean : Cond.code yX8_isClean cX8_isClean 4 (some .boolean) ∈ wA := tA 998 (by decide +kernel) rfl
set_option maxRecDepth 100000 in
theorem ki_X8_isClean : Cond.instanceMethod yX8_isClean ∈ wA ∧ Cond.selects RX8 yX8_isClean yX8_isClean ∈ wA ∧ Cond.initialized RX8 ∈ wA := ⟨tA 997 (by decide +kernel) rfl, tAp 42 (by decide +kernel), tA 9 (by decide +kernel) rfl⟩
set_option maxRecDepth 100000 in
theorem kc_X8_tellsBy : Cond.code yX8_tellsBy cX8_tellsBy 5 (some .int) ∈ wA := tA 1170 (by decide +kernel) rfl
set_option maxRecDepth 100000 in
theorem ki_X8_tellsBy : Cond.instanceMethod yX8_tellsBy ∈ wA ∧ Cond.selects RX8 yX8_tellsBy yX8_tellsBy ∈ wA ∧ Cond.initialized RX8 ∈ wA := ⟨tA 1169 (by decide +kernel) rfl, tAp 64 (by decide +kernel), tA 9 (by decide +kernel) rfl⟩
set_option maxRecDepth 100000 in
theorem kc_X8_tellsAt : Cond.code yX8_tellsAt cX8_tellsAt 4 (some .int) ∈ wA := tA 1053 (by decide +kernel) rfl
set_option maxRecDepth 100000 in
theorem ki_X8_tellsAt : Cond.instanceMethod yX8_tellsAt ∈ wA ∧ Cond.selects RX8 yX8_tellsAt yX8_tellsAt ∈ wA ∧ Cond.initialized RX8 ∈ wA := ⟨tA 1052 (by decide +kernel) rfl, tAp 50 (by decide +kernel), tA 9 (by decide +kernel) rfl⟩
set_option maxRecDepth 100000 in
theorem kc_X8_isWrong : Cond.code yX8_isWrong cX8_isWrong 3 (some .boolean) ∈ wA := tA 1057 (by decide +kernel) rfl
set_option maxRecDepth 100000 in
theorem ki_X8_isWrong : Cond.instanceMethod yX8_isWrong ∈ wA ∧ Cond.selects RX8 yX8_isWrong yX8_isWrong ∈ wA ∧ Cond.initialized RX8 ∈ wA := ⟨tA 1056 (by decide +kernel) rfl, tAp 51 (by decide +kernel), tA 9 (by decide +kernel) rfl⟩
set_option maxRecDepth 100000 in
theorem kc_X8_toldOf : Cond.code yX8_toldOf cX8_toldOf 3 (some .int) ∈ wA := tA 965 (by decide +kernel) rfl
set_option maxRecDepth 100000 in
theorem ki_X8_toldOf : Cond.instanceMethod yX8_toldOf ∈ wA ∧ Cond.selects RX8 yX8_toldOf yX8_toldOf ∈ wA ∧ Cond.initialized RX8 ∈ wA := ⟨tA 964 (by decide +kernel) rfl, tAp 36 (by decide +kernel), tA 9 (by decide +kernel) rfl⟩
set_option maxRecDepth 100000 in
theorem kc_X8_man : Cond.code yX8_man cX8_man 3 (some .int) ∈ wA := tA 956 (by decide +kernel) rfl
set_option maxRecDepth 100000 in
theorem ki_X8_man : Cond.instanceMethod yX8_man ∈ wA ∧ Cond.selects RX8 yX8_man yX8_man ∈ wA ∧ Cond.initialized RX8 ∈ wA := ⟨tA 954 (by decide +kernel) rfl, tA 955 (by decide +kernel) rfl, tA 9 (by decide +kernel) rfl⟩
set_option maxRecDepth 100000 in
theorem kc_X8_isOf : Cond.code yX8_isOf cX8_isOf 4 (some .boolean) ∈ wA := tA 1010 (by decide +kernel) rfl
set_option maxRecDepth 100000 in
theorem ki_X8_isOf : Cond.instanceMethod yX8_isOf ∈ wA ∧ Cond.selects RX8 yX8_isOf yX8_isOf ∈ wA ∧ Cond.initialized RX8 ∈ wA := ⟨tA 1009 (by decide +kernel) rfl, tAp 44 (by decide +kernel), tA 9 (by decide +kernel) rfl⟩
set_option maxRecDepth 100000 in
theorem kc_X8_moreHeat : Cond.code yX8_moreHeat cX8_moreHeat 3 (some .int) ∈ wA := tA 1014 (by decide +kernel) rfl
set_option maxRecDepth 100000 in
theorem ki_X8_moreHeat : Cond.instanceMethod yX8_moreHeat ∈ wA ∧ Cond.selects RX8 yX8_moreHeat yX8_moreHeat ∈ wA ∧ Cond.initialized RX8 ∈ wA := ⟨tA 1013 (by decide +kernel) rfl, tAp 45 (by decide +kernel), tA 9 (by decide +kernel) rfl⟩
set_option maxRecDepth 100000 in
theorem kc_X8_awayBut : Cond.code yX8_awayBut cX8_awayBut 4 (some .int) ∈ wA := tA 1018 (by decide +kernel) rfl
set_option maxRecDepth 100000 in
theorem ki_X8_awayBut : Cond.instanceMethod yX8_awayBut ∈ wA ∧ Cond.selects RX8 yX8_awayBut yX8_awayBut ∈ wA ∧ Cond.initialized RX8 ∈ wA := ⟨tA 1017 (by decide +kernel) rfl, tAp 46 (by decide +kernel), tA 9 (by decide +kernel) rfl⟩
set_option maxRecDepth 100000 in
theorem kc_X8_mark : Cond.code yX8_mark cX8_mark 3 (some .int) ∈ wA := tA 1006 (by decide +kernel) rfl
set_option maxRecDepth 100000 in
theorem ki_X8_mark : Cond.instanceMethod yX8_mark ∈ wA ∧ Cond.selects RX8 yX8_mark yX8_mark ∈ wA ∧ Cond.initialized RX8 ∈ wA := ⟨tA 1004 (by decide +kernel) rfl, tA 1005 (by decide +kernel) rfl, tA 9 (by decide +kernel) rfl⟩
set_option maxRecDepth 100000 in
theorem kc_X8_keepPast : Cond.code yX8_keepPast cX8_keepPast 2 none ∈ wA := tA 1027 (by decide +kernel) rfl
set_option maxRecDepth 100000 in
theorem ki_X8_keepPast : Cond.instanceMethod yX8_keepPast ∈ wA ∧ Cond.selects RX8 yX8_keepPast yX8_keepPast ∈ wA ∧ Cond.initialized RX8 ∈ wA := ⟨tA 1026 (by decide +kernel) rfl, tAp 47 (by decide +kernel), tA 9 (by decide +kernel) rfl⟩
set_option maxRecDepth 100000 in
theorem kc_X8_heatOf : Cond.code yX8_heatOf cX8_heatOf 1 (some .int) ∈ wA := tA 1030 (by decide +kernel) rfl
set_option maxRecDepth 100000 in
theorem ki_X8_heatOf : Cond.static yX8_heatOf ∈ wA ∧ Cond.initialized RX8 ∈ wA := ⟨tA 1029 (by decide +kernel) rfl, tA 9 (by decide +kernel) rfl⟩
set_option maxRecDepth 100000 in
theorem kc_X8_heat : Cond.code yX8_heat cX8_heat 2 (some .int) ∈ wA := tA 1022 (by decide +kernel) rfl
set_option maxRecDepth 100000 in
theorem ki_X8_heat : Cond.instanceMethod yX8_heat ∈ wA ∧ Cond.selects RX8 yX8_heat yX8_heat ∈ wA ∧ Cond.initialized RX8 ∈ wA := ⟨tA 1020 (by decide +kernel) rfl, tA 1021 (by decide +kernel) rfl, tA 9 (by decide +kernel) rfl⟩
set_option maxRecDepth 100000 in
theorem kc_X8_isDone : Cond.code yX8_isDone cX8_isDone 2 (some .boolean) ∈ wA := tA 1038 (by decide +kernel) rfl
set_option maxRecDepth 100000 in
theorem ki_X8_isDone : Cond.instanceMethod yX8_isDone ∈ wA ∧ Cond.selects RX8 yX8_isDone yX8_isDone ∈ wA ∧ Cond.initialized RX8 ∈ wA := ⟨tA 1037 (by decide +kernel) rfl, tAp 48 (by decide +kernel), tA 9 (by decide +kernel) rfl⟩
set_option maxRecDepth 100000 in
theorem kc_X8_salve : Cond.code yX8_salve cX8_salve 2 (some .int) ∈ wA := tA 1034 (by decide +kernel) rfl
set_option maxRecDepth 100000 in
theorem ki_X8_salve : Cond.instanceMethod yX8_salve ∈ wA ∧ Cond.selects RX8 yX8_salve yX8_salve ∈ wA ∧ Cond.initialized RX8 ∈ wA := ⟨tA 1032 (by decide +kernel) rfl, tA 1033 (by decide +kernel) rfl, tA 9 (by decide +kernel) rfl⟩
set_option maxRecDepth 100000 in
theorem kc_X8_tryAt : Cond.code yX8_tryAt cX8_tryAt 4 (some .int) ∈ wA := tA 1049 (by decide +kernel) rfl
set_option maxRecDepth 100000 in
theorem ki_X8_tryAt : Cond.instanceMethod yX8_tryAt ∈ wA ∧ Cond.selects RX8 yX8_tryAt yX8_tryAt ∈ wA ∧ Cond.initialized RX8 ∈ wA := ⟨tA 1048 (by decide +kernel) rfl, tAp 49 (by decide +kernel), tA 9 (by decide +kernel) rfl⟩
set_option maxRecDepth 100000 in
theorem kc_X8_trial : Cond.code yX8_trial cX8_trial 3 (some .int) ∈ wA := tA 1045 (by decide +kernel) rfl
set_option maxRecDepth 100000 in
theorem ki_X8_trial : Cond.instanceMethod yX8_trial ∈ wA ∧ Cond.selects RX8 yX8_trial yX8_trial ∈ wA ∧ Cond.initialized RX8 ∈ wA := ⟨tA 1043 (by decide +kernel) rfl, tA 1044 (by decide +kernel) rfl, tA 9 (by decide +kernel) rfl⟩
set_option maxRecDepth 100000 in
theorem kc_X8_undo : Cond.code yX8_undo cX8_undo 4 (some .int) ∈ wA := tA 1061 (by decide +kernel) rfl
set_option maxRecDepth 100000 in
theorem ki_X8_undo : Cond.instanceMethod yX8_undo ∈ wA ∧ Cond.selects RX8 yX8_undo yX8_undo ∈ wA ∧ Cond.initialized RX8 ∈ wA := ⟨tA 1059 (by decide +kernel) rfl, tA 1060 (by decide +kernel) rfl, tA 9 (by decide +kernel) rfl⟩
set_option maxRecDepth 100000 in
theorem kc_X8_copyCourt : Cond.code yX8_copyCourt cX8_copyCourt 4 none ∈ wA := tA 1070 (by decide +kernel) rfl
set_option maxRecDepth 100000 in
theorem ki_X8_copyCourt : Cond.instanceMethod yX8_copyCourt ∈ wA ∧ Cond.selects RX8 yX8_copyCourt yX8_copyCourt ∈ wA ∧ Cond.initialized RX8 ∈ wA := ⟨tA 1069 (by decide +kernel) rfl, tAp 52 (by decide +kernel), tA 9 (by decide +kernel) rfl⟩
set_option maxRecDepth 100000 in
theorem kc_X8_keep : Cond.code yX8_keep cX8_keep 2 (some .int) ∈ wA := tA 1065 (by decide +kernel) rfl
set_option maxRecDepth 100000 in
theorem ki_X8_keep : Cond.instanceMethod yX8_keep ∈ wA ∧ Cond.selects RX8 yX8_keep yX8_keep ∈ wA ∧ Cond.initialized RX8 ∈ wA := ⟨tA 1063 (by decide +kernel) rfl, tA 1064 (by decide +kernel) rfl, tA 9 (by decide +kernel) rfl⟩
set_option maxRecDepth 100000 in
theorem kc_X8_on : Cond.code yX8_on cX8_on 2 (some .int) ∈ wA := tA 1074 (by decide +kernel) rfl
set_option maxRecDepth 100000 in
theorem ki_X8_on : Cond.instanceMethod yX8_on ∈ wA ∧ Cond.selects RX8 yX8_on yX8_on ∈ wA ∧ Cond.initialized RX8 ∈ wA := ⟨tA 1072 (by decide +kernel) rfl, tA 1073 (by decide +kernel) rfl, tA 9 (by decide +kernel) rfl⟩
set_option maxRecDepth 100000 in
theorem kc_X8_comes : Cond.code yX8_comes cX8_comes 4 (some .int) ∈ wA := tA 1078 (by decide +kernel) rfl
set_option maxRecDepth 100000 in
theorem ki_X8_comes : Cond.instanceMethod yX8_comes ∈ wA ∧ Cond.selects RX8 yX8_comes yX8_comes ∈ wA ∧ Cond.initialized RX8 ∈ wA := ⟨tA 1076 (by decide +kernel) rfl, tA 1077 (by decide +kernel) rfl, tA 9 (by decide +kernel) rfl⟩
set_option maxRecDepth 100000 in
theorem kc_X8_wrongBy : Cond.code yX8_wrongBy cX8_wrongBy 6 (some .int) ∈ wA := tA 1087 (by decide +kernel) rfl
set_option maxRecDepth 100000 in
theorem ki_X8_wrongBy : Cond.instanceMethod yX8_wrongBy ∈ wA ∧ Cond.selects RX8 yX8_wrongBy yX8_wrongBy ∈ wA ∧ Cond.initialized RX8 ∈ wA := ⟨tA 1086 (by decide +kernel) rfl, tAp 53 (by decide +kernel), tA 9 (by decide +kernel) rfl⟩
set_option maxRecDepth 100000 in
theorem kc_X8_wrong : Cond.code yX8_wrong cX8_wrong 2 (some .int) ∈ wA := tA 1082 (by decide +kernel) rfl
set_option maxRecDepth 100000 in
theorem ki_X8_wrong : Cond.instanceMethod yX8_wrong ∈ wA ∧ Cond.selects RX8 yX8_wrong yX8_wrong ∈ wA ∧ Cond.initialized RX8 ∈ wA := ⟨tA 1080 (by decide +kernel) rfl, tA 1081 (by decide +kernel) rfl, tA 9 (by decide +kernel) rfl⟩
set_option maxRecDepth 100000 in
theorem kc_X8_best : Cond.code yX8_best cX8_best 3 (some .int) ∈ wA := tA 1091 (by decide +kernel) rfl
set_option maxRecDepth 100000 in
theorem ki_X8_best : Cond.instanceMethod yX8_best ∈ wA ∧ Cond.selects RX8 yX8_best yX8_best ∈ wA ∧ Cond.initialized RX8 ∈ wA := ⟨tA 1089 (by decide +kernel) rfl, tA 1090 (by decide +kernel) rfl, tA 9 (by decide +kernel) rfl⟩
set_option maxRecDepth 100000 in
theorem kc_X8_heats : Cond.code yX8_heats cX8_heats 5 (some .int) ∈ wA := tA 1095 (by decide +kernel) rfl
set_option maxRecDepth 100000 in
theorem ki_X8_heats : Cond.instanceMethod yX8_heats ∈ wA ∧ Cond.selects RX8 yX8_heats yX8_heats ∈ wA ∧ Cond.initialized RX8 ∈ wA := ⟨tA 1093 (by decide +kernel) rfl, tA 1094 (by decide +kernel) rfl, tA 9 (by decide +kernel) rfl⟩
set_option maxRecDepth 100000 in
theorem kc_X8_tellParts : Cond.code yX8_tellParts cX8_tellParts 11 (some .int) ∈ wA := tA 1103 (by decide +kernel) rfl
set_option maxRecDepth 100000 in
theorem ki_X8_tellParts : Cond.instanceMethod yX8_tellParts ∈ wA ∧ Cond.selects RX8 yX8_tellParts yX8_tellParts ∈ wA ∧ Cond.initialized RX8 ∈ wA := ⟨tA 1102 (by decide +kernel) rfl, tAp 54 (by decide +kernel), tA 9 (by decide +kernel) rfl⟩
set_option maxRecDepth 100000 in
theorem kc_X8_tells : Cond.code yX8_tells cX8_tells 7 (some .int) ∈ wA := tA 1099 (by decide +kernel) rfl
set_option maxRecDepth 100000 in
theorem ki_X8_tells : Cond.instanceMethod yX8_tells ∈ wA ∧ Cond.selects RX8 yX8_tells yX8_tells ∈ wA ∧ Cond.initialized RX8 ∈ wA := ⟨tA 1097 (by decide +kernel) rfl, tA 1098 (by decide +kernel) rfl, tA 9 (by decide +kernel) rfl⟩
set_option maxRecDepth 100000 in
theorem kc_X8_layTried : Cond.code yX8_layTried cX8_layTried 2 none ∈ wA := tA 1119 (by decide +kernel) rfl
set_option maxRecDepth 100000 in
theorem ki_X8_layTried : Cond.instanceMethod yX8_layTried ∈ wA ∧ Cond.selects RX8 yX8_layTried yX8_layTried ∈ wA ∧ Cond.initialized RX8 ∈ wA := ⟨tA 1118 (by decide +kernel) rfl, tAp 57 (by decide +kernel), tA 9 (by decide +kernel) rfl⟩
set_option maxRecDepth 100000 in
theorem kc_X8_layLine : Cond.code yX8_layLine cX8_layLine 2 none ∈ wA := tA 1111 (by decide +kernel) rfl
set_option maxRecDepth 100000 in
theorem ki_X8_layLine : Cond.instanceMethod yX8_layLine ∈ wA ∧ Cond.selects RX8 yX8_layLine yX8_layLine ∈ wA ∧ Cond.initialized RX8 ∈ wA := ⟨tA 1110 (by decide +kernel) rfl, tAp 55 (by decide +kernel), tA 9 (by decide +kernel) rfl⟩
set_option maxRecDepth 100000 in
theorem kc_X8_swapLine : Cond.code yX8_swapLine cX8_swapLine 4 none ∈ wA := tA 1127 (by decide +kernel) rfl
set_option maxRecDepth 100000 in
theorem ki_X8_swapLine : Cond.instanceMethod yX8_swapLine ∈ wA ∧ Cond.selects RX8 yX8_swapLine yX8_swapLine ∈ wA ∧ Cond.initialized RX8 ∈ wA := ⟨tA 1126 (by decide +kernel) rfl, tAp 59 (by decide +kernel), tA 9 (by decide +kernel) rfl⟩
set_option maxRecDepth 100000 in
theorem kc_X8_nextLine : Cond.code yX8_nextLine cX8_nextLine 5 (some .boolean) ∈ wA := tA 1123 (by decide +kernel) rfl
set_option maxRecDepth 100000 in
theorem ki_X8_nextLine : Cond.instanceMethod yX8_nextLine ∈ wA ∧ Cond.selects RX8 yX8_nextLine yX8_nextLine ∈ wA ∧ Cond.initialized RX8 ∈ wA := ⟨tA 1122 (by decide +kernel) rfl, tAp 58 (by decide +kernel), tA 9 (by decide +kernel) rfl⟩
set_option maxRecDepth 100000 in
theorem kc_X8_wrongInLine : Cond.code yX8_wrongInLine cX8_wrongInLine 2 (some .int) ∈ wA := tA 1115 (by decide +kernel) rfl
set_option maxRecDepth 100000 in
theorem ki_X8_wrongInLine : Cond.instanceMethod yX8_wrongInLine ∈ wA ∧ Cond.selects RX8 yX8_wrongInLine yX8_wrongInLine ∈ wA ∧ Cond.initialized RX8 ∈ wA := ⟨tA 1114 (by decide +kernel) rfl, tAp 56 (by decide +kernel), tA 9 (by decide +kernel) rfl⟩
set_option maxRecDepth 100000 in
theorem kc_X8_order : Cond.code yX8_order cX8_order 6 (some .int) ∈ wA := tA 1107 (by decide +kernel) rfl
set_option maxRecDepth 100000 in
theorem ki_X8_order : Cond.instanceMethod yX8_order ∈ wA ∧ Cond.selects RX8 yX8_order yX8_order ∈ wA ∧ Cond.initialized RX8 ∈ wA := ⟨tA 1105 (by decide +kernel) rfl, tA 1106 (by decide +kernel) rfl, tA 9 (by decide +kernel) rfl⟩
set_option maxRecDepth 100000 in
theorem kc_X8_tried : Cond.code yX8_tried cX8_tried 5 (some .int) ∈ wA := tA 1131 (by decide +kernel) rfl
set_option maxRecDepth 100000 in
theorem ki_X8_tried : Cond.instanceMethod yX8_tried ∈ wA ∧ Cond.selects RX8 yX8_tried yX8_tried ∈ wA ∧ Cond.initialized RX8 ∈ wA := ⟨tA 1129 (by decide +kernel) rfl, tA 1130 (by decide +kernel) rfl, tA 9 (by decide +kernel) rfl⟩
set_option maxRecDepth 100000 in
theorem kc_X8_least : Cond.code yX8_least cX8_least 5 (some .int) ∈ wA := tA 1135 (by decide +kernel) rfl
set_option maxRecDepth 100000 in
theorem ki_X8_least : Cond.instanceMethod yX8_least ∈ wA ∧ Cond.selects RX8 yX8_least yX8_least ∈ wA ∧ Cond.initialized RX8 ∈ wA := ⟨tA 1133 (by decide +kernel) rfl, tA 1134 (by decide +kernel) rfl, tA 9 (by decide +kernel) rfl⟩
set_option maxRecDepth 100000 in
theorem kc_X8_noPairs : Cond.code yX8_noPairs cX8_noPairs 5 (some .int) ∈ wA := tA 1143 (by decide +kernel) rfl
set_option maxRecDepth 100000 in
theorem ki_X8_noPairs : Cond.instanceMethod yX8_noPairs ∈ wA ∧ Cond.selects RX8 yX8_noPairs yX8_noPairs ∈ wA ∧ Cond.initialized RX8 ∈ wA := ⟨tA 1142 (by decide +kernel) rfl, tAp 60 (by decide +kernel), tA 9 (by decide +kernel) rfl⟩
set_option maxRecDepth 100000 in
theorem kc_X8_fitting : Cond.code yX8_fitting cX8_fitting 6 (some .int) ∈ wA := tA 1147 (by decide +kernel) rfl
set_option maxRecDepth 100000 in
theorem ki_X8_fitting : Cond.instanceMethod yX8_fitting ∈ wA ∧ Cond.selects RX8 yX8_fitting yX8_fitting ∈ wA ∧ Cond.initialized RX8 ∈ wA := ⟨tA 1146 (by decide +kernel) rfl, tAp 61 (by decide +kernel), tA 9 (by decide +kernel) rfl⟩
set_option maxRecDepth 100000 in
theorem kc_X8_fits : Cond.code yX8_fits cX8_fits 4 (some .int) ∈ wA := tA 1139 (by decide +kernel) rfl
set_option maxRecDepth 100000 in
theorem ki_X8_fits : Cond.instanceMethod yX8_fits ∈ wA ∧ Cond.selects RX8 yX8_fits yX8_fits ∈ wA ∧ Cond.initialized RX8 ∈ wA := ⟨tA 1137 (by decide +kernel) rfl, tA 1138 (by decide +kernel) rfl, tA 9 (by decide +kernel) rfl⟩
set_option maxRecDepth 100000 in
theorem kc_X8_greatestPart : Cond.code yX8_greatestPart cX8_greatestPart 6 (some .int) ∈ wA := tA 1158 (by decide +kernel) rfl
set_option maxRecDepth 100000 in
theorem ki_X8_greatestPart : Cond.instanceMethod yX8_greatestPart ∈ wA ∧ Cond.selects RX8 yX8_greatestPart yX8_greatestPart ∈ wA ∧ Cond.initialized RX8 ∈ wA := ⟨tA 1157 (by decide +kernel) rfl, tAp 62 (by decide +kernel), tA 9 (by decide +kernel) rfl⟩
set_option maxRecDepth 100000 in
theorem kc_X8_ask : Cond.code yX8_ask cX8_ask 6 (some .int) ∈ wA := tA 1154 (by decide +kernel) rfl
set_option maxRecDepth 100000 in
theorem ki_X8_ask : Cond.instanceMethod yX8_ask ∈ wA ∧ Cond.selects RX8 yX8_ask yX8_ask ∈ wA ∧ Cond.initialized RX8 ∈ wA := ⟨tA 1152 (by decide +kernel) rfl, tA 1153 (by decide +kernel) rfl, tA 9 (by decide +kernel) rfl⟩
set_option maxRecDepth 100000 in
theorem kc_X8_isTold : Cond.code yX8_isTold cX8_isTold 7 (some .boolean) ∈ wA := tA 1166 (by decide +kernel) rfl
set_option maxRecDepth 100000 in
theorem ki_X8_isTold : Cond.instanceMethod yX8_isTold ∈ wA ∧ Cond.selects RX8 yX8_isTold yX8_isTold ∈ wA ∧ Cond.initialized RX8 ∈ wA := ⟨tA 1165 (by decide +kernel) rfl, tAp 63 (by decide +kernel), tA 9 (by decide +kernel) rfl⟩
set_option maxRecDepth 100000 in
theorem kc_X8_hands : Cond.code yX8_hands cX8_hands 6 (some .int) ∈ wA := tA 1162 (by decide +kernel) rfl
set_option maxRecDepth 100000 in
theorem ki_X8_hands : Cond.instanceMethod yX8_hands ∈ wA ∧ Cond.selects RX8 yX8_hands yX8_hands ∈ wA ∧ Cond.initialized RX8 ∈ wA := ⟨tA 1160 (by decide +kernel) rfl, tA 1161 (by decide +kernel) rfl, tA 9 (by decide +kernel) rfl⟩
set_option maxRecDepth 100000 in
theorem kc_X8_kinds : Cond.code yX8_kinds cX8_kinds 6 (some .int) ∈ wA := tA 1174 (by decide +kernel) rfl
set_option maxRecDepth 100000 in
theorem ki_X8_kinds : Cond.instanceMethod yX8_kinds ∈ wA ∧ Cond.selects RX8 yX8_kinds yX8_kinds ∈ wA ∧ Cond.initialized RX8 ∈ wA := ⟨tA 1172 (by decide +kernel) rfl, tA 1173 (by decide +kernel) rfl, tA 9 (by decide +kernel) rfl⟩
set_option maxRecDepth 100000 in
theorem kc_X8_foulBy : Cond.code yX8_foulBy cX8_foulBy 4 (some .int) ∈ wA := tA 1183 (by decide +kernel) rfl
set_option maxRecDepth 100000 in
theorem ki_X8_foulBy : Cond.instanceMethod yX8_foulBy ∈ wA ∧ Cond.selects RX8 yX8_foulBy yX8_foulBy ∈ wA ∧ Cond.initialized RX8 ∈ wA := ⟨tA 1182 (by decide +kernel) rfl, tAp 65 (by decide +kernel), tA 9 (by decide +kernel) rfl⟩
set_option maxRecDepth 100000 in
theorem kc_X8_duel : Cond.code yX8_duel cX8_duel 7 (some .int) ∈ wA := tA 1178 (by decide +kernel) rfl
set_option maxRecDepth 100000 in
theorem ki_X8_duel : Cond.instanceMethod yX8_duel ∈ wA ∧ Cond.selects RX8 yX8_duel yX8_duel ∈ wA ∧ Cond.initialized RX8 ∈ wA := ⟨tA 1176 (by decide +kernel) rfl, tA 1177 (by decide +kernel) rfl, tA 9 (by decide +kernel) rfl⟩
set_option maxRecDepth 100000 in
theorem kc_X8_cleanWays : Cond.code yX8_cleanWays cX8_cleanWays 4 (some .int) ∈ wA := tA 1196 (by decide +kernel) rfl
set_option maxRecDepth 100000 in
theorem ki_X8_cleanWays : Cond.instanceMethod yX8_cleanWays ∈ wA ∧ Cond.selects RX8 yX8_cleanWays yX8_cleanWays ∈ wA ∧ Cond.initialized RX8 ∈ wA := ⟨tA 1195 (by decide +kernel) rfl, tAp 67 (by decide +kernel), tA 9 (by decide +kernel) rfl⟩
set_option maxRecDepth 100000 in
theorem kc_X8_isHere : Cond.code yX8_isHere cX8_isHere 2 (some .boolean) ∈ wA := tA 1192 (by decide +kernel) rfl
set_option maxRecDepth 100000 in
theorem ki_X8_isHere : Cond.instanceMethod yX8_isHere ∈ wA ∧ Cond.selects RX8 yX8_isHere yX8_isHere ∈ wA ∧ Cond.initialized RX8 ∈ wA := ⟨tA 1191 (by decide +kernel) rfl, tAp 66 (by decide +kernel), tA 9 (by decide +kernel) rfl⟩
set_option maxRecDepth 100000 in
theorem kc_X8_odds : Cond.code yX8_odds cX8_odds 7 (some .int) ∈ wA := tA 1187 (by decide +kernel) rfl
set_option maxRecDepth 100000 in
theorem ki_X8_odds : Cond.instanceMethod yX8_odds ∈ wA ∧ Cond.selects RX8 yX8_odds yX8_odds ∈ wA ∧ Cond.initialized RX8 ∈ wA := ⟨tA 1185 (by decide +kernel) rfl, tA 1186 (by decide +kernel) rfl, tA 9 (by decide +kernel) rfl⟩
set_option maxRecDepth 100000 in
theorem kc_X8_mid : Cond.code yX8_mid cX8_mid 5 (some .int) ∈ wA := tA 1200 (by decide +kernel) rfl
set_option maxRecDepth 100000 in
theorem ki_X8_mid : Cond.instanceMethod yX8_mid ∈ wA ∧ Cond.selects RX8 yX8_mid yX8_mid ∈ wA ∧ Cond.initialized RX8 ∈ wA := ⟨tA 1198 (by decide +kernel) rfl, tA 1199 (by decide +kernel) rfl, tA 9 (by decide +kernel) rfl⟩
set_option maxRecDepth 100000 in
theorem kc_X8_lots : Cond.code yX8_lots cX8_lots 8 (some .int) ∈ wA := tA 1204 (by decide +kernel) rfl
set_option maxRecDepth 100000 in
theorem ki_X8_lots : Cond.instanceMethod yX8_lots ∈ wA ∧ Cond.selects RX8 yX8_lots yX8_lots ∈ wA ∧ Cond.initialized RX8 ∈ wA := ⟨tA 1202 (by decide +kernel) rfl, tA 1203 (by decide +kernel) rfl, tA 9 (by decide +kernel) rfl⟩
set_option maxRecDepth 100000 in
theorem kc_X8_asked : Cond.code yX8_asked cX8_asked 1 (some .int) ∈ wA := tA 1213 (by decide +kernel) rfl
set_option maxRecDepth 100000 in
theorem ki_X8_asked : Cond.instanceMethod yX8_asked ∈ wA ∧ Cond.selects RX8 yX8_asked yX8_asked ∈ wA ∧ Cond.initialized RX8 ∈ wA := ⟨tA 1211 (by decide +kernel) rfl, tA 1212 (by decide +kernel) rfl, tA 9 (by decide +kernel) rfl⟩
set_option maxRecDepth 100000 in
theorem kc_X8_upper : Cond.code yX8_upper cX8_upper 1 (some .long) ∈ wA := tA 1217 (by decide +kernel) rfl
set_option maxRecDepth 100000 in
theorem ki_X8_upper : Cond.instanceMethod yX8_upper ∈ wA ∧ Cond.selects RX8 yX8_upper yX8_upper ∈ wA ∧ Cond.initialized RX8 ∈ wA := ⟨tA 1215 (by decide +kernel) rfl, tA 1216 (by decide +kernel) rfl, tA 9 (by decide +kernel) rfl⟩
set_option maxRecDepth 100000 in
theorem kc_X8_lower : Cond.code yX8_lower cX8_lower 1 (some .long) ∈ wA := tA 1221 (by decide +kernel) rfl
set_option maxRecDepth 100000 in
theorem ki_X8_lower : Cond.instanceMethod yX8_lower ∈ wA ∧ Cond.selects RX8 yX8_lower yX8_lower ∈ wA ∧ Cond.initialized RX8 ∈ wA := ⟨tA 1219 (by decide +kernel) rfl, tA 1220 (by decide +kernel) rfl, tA 9 (by decide +kernel) rfl⟩
set_option maxRecDepth 100000 in
theorem kc_X8_sumOf : Cond.code yX8_sumOf cX8_sumOf 4 (some .int) ∈ wA := tA 1234 (by decide +kernel) rfl
set_option maxRecDepth 100000 in
theorem ki_X8_sumOf : Cond.instanceMethod yX8_sumOf ∈ wA ∧ Cond.selects RX8 yX8_sumOf yX8_sumOf ∈ wA ∧ Cond.initialized RX8 ∈ wA := ⟨tA 1233 (by decide +kernel) rfl, tAp 69 (by decide +kernel), tA 9 (by decide +kernel) rfl⟩
set_option maxRecDepth 100000 in
theorem kc_X8_thereOf : Cond.code yX8_thereOf cX8_thereOf 4 (some .int) ∈ wA := tA 1238 (by decide +kernel) rfl
set_option maxRecDepth 100000 in
theorem ki_X8_thereOf : Cond.instanceMethod yX8_thereOf ∈ wA ∧ Cond.selects RX8 yX8_thereOf yX8_thereOf ∈ wA ∧ Cond.initialized RX8 ∈ wA := ⟨tA 1237 (by decide +kernel) rfl, tAp 70 (by decide +kernel), tA 9 (by decide +kernel) rfl⟩
set_option maxRecDepth 100000 in
theorem kc_X8_countOf : Cond.code yX8_countOf cX8_countOf 2 (some .int) ∈ wA := tA 1230 (by decide +kernel) rfl
set_option maxRecDepth 100000 in
theorem ki_X8_countOf : Cond.instanceMethod yX8_countOf ∈ wA ∧ Cond.selects RX8 yX8_countOf yX8_countOf ∈ wA ∧ Cond.initialized RX8 ∈ wA := ⟨tA 1229 (by decide +kernel) rfl, tAp 68 (by decide +kernel), tA 9 (by decide +kernel) rfl⟩
set_option maxRecDepth 100000 in
theorem kc_X8_count : Cond.code yX8_count cX8_count 2 (some .int) ∈ wA := tA 1225 (by decide +kernel) rfl
set_option maxRecDepth 100000 in
theorem ki_X8_count : Cond.instanceMethod yX8_count ∈ wA ∧ Cond.selects RX8 yX8_count yX8_count ∈ wA ∧ Cond.initialized RX8 ∈ wA := ⟨tA 1223 (by decide +kernel) rfl, tA 1224 (by decide +kernel) rfl, tA 9 (by decide +kernel) rfl⟩
set_option maxRecDepth 100000 in
theorem kc_X8_finding : Cond.code yX8_finding cX8_finding 1 (some .int) ∈ wA := tA 1242 (by decide +kernel) rfl
set_option maxRecDepth 100000 in
theorem ki_X8_finding : Cond.instanceMethod yX8_finding ∈ wA ∧ Cond.selects RX8 yX8_finding yX8_finding ∈ wA ∧ Cond.initialized RX8 ∈ wA := ⟨tA 1240 (by decide +kernel) rfl, tA 1241 (by decide +kernel) rfl, tA 9 (by decide +kernel) rfl⟩
set_option maxRecDepth 100000 in
theorem kc_X8_findings : Cond.code yX8_findings cX8_findings 2 (some .int) ∈ wA := tA 1246 (by decide +kernel) rfl
set_option maxRecDepth 100000 in
theorem ki_X8_findings : Cond.instanceMethod yX8_findings ∈ wA ∧ Cond.selects RX8 yX8_findings yX8_findings ∈ wA ∧ Cond.initialized RX8 ∈ wA := ⟨tA 1244 (by decide +kernel) rfl, tA 1245 (by decide +kernel) rfl, tA 9 (by decide +kernel) rfl⟩
set_option maxRecDepth 100000 in
theorem kc_X8_digest : Cond.code yX8_digest cX8_digest 5 (some .long) ∈ wA := tA 1250 (by decide +kernel) rfl
set_option maxRecDepth 100000 in
theorem ki_X8_digest : Cond.instanceMethod yX8_digest ∈ wA ∧ Cond.selects RX8 yX8_digest yX8_digest ∈ wA ∧ Cond.initialized RX8 ∈ wA := ⟨tA 1248 (by decide +kernel) rfl, tA 1249 (by decide +kernel) rfl, tA 9 (by decide +kernel) rfl⟩
set_option maxRecDepth 100000 in
theorem kc_J6_bitCount_0f7a4 : Cond.code yJ6_bitCount_0f7a4 cJ6_bitCount_0f7a4 1 (some .int) ∈ wA := tA 561 (by decide +kernel) rfl
set_option maxRecDepth 100000 in
theorem ki_J6_bitCount_0f7a4 : Cond.static yJ6_bitCount_0f7a4 ∈ wA ∧ Cond.initialized RJ6 ∈ wA := ⟨tA 560 (by decide +kernel) rfl, tA 12 (by decide +kernel) rfl⟩
end
