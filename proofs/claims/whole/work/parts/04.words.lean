def wA : List Cond := lw_tbl.filter goodWord
def isNest : Cond → Bool
  | .methodLinkNest _ _ _ _ => true
  | .fieldLinkNest _ _ _ _ _ _ => true
  | _ => false
def wN : List Cond := lw_tbl.filter isNest
theorem wA_good {w : Cond} (h : w ∈ wA) : w ∈ wA ∧ ((w.onTables && w.keeps) = true ∨ ∃ ty, w = .arrayClass ty) := ⟨h, good_of_word (List.mem_filter.mp h).2⟩
theorem wA_in {w : Cond} (h : w ∈ wA) : w ∈ lw_tbl := (List.mem_filter.mp h).1
theorem wN_in {w : Cond} (h : w ∈ wN) : w ∈ lw_tbl := (List.mem_filter.mp h).1
theorem wG {y : MethodName} {c : ByteArray} {n : Nat} {r : Option FieldType} (h : Cond.code y c n r ∈ wA) : GoodIn wA (Cond.code y c n r :: wA) := fun w hw => by
  rcases List.mem_cons.mp hw with e | e
  · rw [e]; exact wA_good h
  · exact wA_good e
theorem tA (i : Nat) {w : Cond} (h : tables_1[i]? = some w) (hg : goodWord w = true) : w ∈ wA := List.mem_filter.mpr ⟨List.mem_append_right _ (List.mem_of_getElem? h), hg⟩
theorem tN (i : Nat) {w : Cond} (h : tables_1[i]? = some w) (hg : isNest w = true) : w ∈ wN := List.mem_filter.mpr ⟨List.mem_append_right _ (List.mem_of_getElem? h), hg⟩
theorem tAp (i : Nat) {C : String} {x y : MethodName} (h : (k2_sels lw_privs)[i]? = some (Cond.selects C x y)) : Cond.selects C x y ∈ wA := List.mem_filter.mpr ⟨List.mem_append_left _ (List.mem_of_getElem? h), rfl⟩
theorem wMem (ws : List Cond) (ps : List Nat) (h : ws = ps.filterMap (fun i => tables_1[i]?)) (hg : ws.all goodWord = true) : ∀ w ∈ ws, w ∈ wA := by
  intro w hw
  have hg1 := List.all_eq_true.mp hg w hw
  rw [h] at hw
  obtain ⟨i, -, hi⟩ := List.mem_filterMap.mp hw
  exact tA i hi hg1
/-- what the tables say of nest mates, at a state -/
def gNs (U : State) : Prop := ∀ w ∈ wN, va_Nw w U
theorem gNs_warm {s U : State} (hW : s.WarmedH U.vm) (h : gNs s) : gNs U := by
  intro w hw
  have h1 := h w hw
  have h2 := (List.mem_filter.mp hw).2
  cases w <;> first | (exact va_Nw.warmF hW h1) | (exact va_Nw.warmM hW h1) | (exact absurd h2 (by simp [isNest]))
theorem gNs_vm {u U : State} (hvm : u.vm = U.vm) (h : gNs u) : gNs U := by
  intro w hw
  have h1 := h w hw
  have h2 := (List.mem_filter.mp hw).2
  cases w <;> first | (exact va_Nw.same rfl hvm h1) | (exact absurd h2 (by simp [isNest]))
set_option maxRecDepth 100000 in
theorem lA0 : ∀ w ∈ u_ws RX0 TX0 9, w ∈ wA := wMem _ [130, 132, 134, 136, 138, 140, 142, 144, 146] (by decide +kernel) (by decide +kernel)
set_option maxRecDepth 100000 in
theorem lA1 : ∀ w ∈ u_ws RX1 TX1 3, w ∈ wA := wMem _ [106, 108, 110] (by decide +kernel) (by decide +kernel)
set_option maxRecDepth 100000 in
theorem lA2 : ∀ w ∈ u_ws RX2 TX2 2, w ∈ wA := wMem _ [172, 174] (by decide +kernel) (by decide +kernel)
set_option maxRecDepth 100000 in
theorem lA3 : ∀ w ∈ u_ws RX3 TX3 7, w ∈ wA := wMem _ [78, 80, 82, 84, 86, 88, 90] (by decide +kernel) (by decide +kernel)
set_option maxRecDepth 100000 in
theorem lA4 : ∀ w ∈ u_ws RX4 TX4 2, w ∈ wA := wMem _ [159, 161] (by decide +kernel) (by decide +kernel)
set_option maxRecDepth 100000 in
theorem lA5 : ∀ w ∈ u_ws RX5 TX5 4, w ∈ wA := wMem _ [35, 37, 39, 41] (by decide +kernel) (by decide +kernel)
set_option maxRecDepth 100000 in
theorem lA6 : ∀ w ∈ u_ws RX6 TX6 2, w ∈ wA := wMem _ [192, 194] (by decide +kernel) (by decide +kernel)
set_option maxRecDepth 100000 in
theorem lA7 : ∀ w ∈ u_ws RX7 TX7 12, w ∈ wA := wMem _ [210, 212, 214, 216, 218, 220, 222, 224, 226, 228, 230, 232] (by decide +kernel) (by decide +kernel)
set_option maxRecDepth 100000 in
theorem lA8 : ∀ w ∈ u_ws RX8 TX8 30, w ∈ wA := wMem _ [790, 792, 794, 796, 798, 800, 802, 804, 806, 808, 810, 812, 814, 816, 818, 820, 822, 824, 826, 828, 830, 832, 834, 836, 838, 840, 842, 844, 846, 848] (by decide +kernel) (by decide +kernel)
set_option maxRecDepth 100000 in
theorem fk_X7_11 : Cond.fieldLink RX7 11 "ThirdDay" "rows" "[LThirdDay$Row;" ∈ wA := tA 198 (by decide +kernel) rfl
set_option maxRecDepth 100000 in
theorem fk_X7_15 : Cond.fieldLink RX7 15 "ThirdDay" "texts" "[LThirdDay$Row;" ∈ wA := tA 199 (by decide +kernel) rfl
set_option maxRecDepth 100000 in
theorem fk_X7_21 : Cond.fieldLink RX7 21 "ThirdDay" "reader" "LThirdDay$Reader;" ∈ wA := tA 200 (by decide +kernel) rfl
set_option maxRecDepth 100000 in
theorem fk_X7_28 : Cond.fieldLink RX7 28 "ThirdDay" "court" "LThirdDay$Court;" ∈ wA := tA 201 (by decide +kernel) rfl
set_option maxRecDepth 100000 in
theorem fk_X7_34 : Cond.fieldLink RX7 34 "ThirdDay" "kept" "[LThirdDay$Deeds;" ∈ wA := tA 202 (by decide +kernel) rfl
set_option maxRecDepth 100000 in
theorem fk_X7_41 : Cond.fieldLink RX7 41 "ThirdDay" "orders" "LThirdDay$Orders;" ∈ wA := tA 203 (by decide +kernel) rfl
set_option maxRecDepth 100000 in
theorem fk_X7_48 : Cond.fieldLink RX7 48 "ThirdDay" "turns" "LThirdDay$Duel;" ∈ wA := tA 204 (by decide +kernel) rfl
set_option maxRecDepth 100000 in
theorem fk_X7_52 : Cond.fieldLink RX7 52 "ThirdDay" "findingCounts" "[I" ∈ wA := tA 205 (by decide +kernel) rfl
set_option maxRecDepth 100000 in
theorem fk_X7_56 : Cond.fieldLink RX7 56 "ThirdDay" "lowerTold" "J" ∈ wA := tA 209 (by decide +kernel) rfl
set_option maxRecDepth 100000 in
theorem fk_X7_72 : Cond.fieldLinkNest RX7 72 "ThirdDay$Row" "places" "[I" "ThirdDay" ∈ wN := tN 185 (by decide +kernel) rfl
set_option maxRecDepth 100000 in
theorem fk_X7_75 : Cond.fieldLink RX7 75 "ThirdDay" "told" "I" ∈ wA := tA 207 (by decide +kernel) rfl
set_option maxRecDepth 100000 in
theorem fk_X7_83 : Cond.fieldLinkNest RX7 83 "ThirdDay$Row" "size" "I" "ThirdDay" ∈ wN := tN 190 (by decide +kernel) rfl
set_option maxRecDepth 100000 in
theorem fk_X7_120 : Cond.fieldLinkNest RX7 120 "ThirdDay$Deeds" "size" "I" "ThirdDay" ∈ wN := tN 105 (by decide +kernel) rfl
set_option maxRecDepth 100000 in
theorem fk_X7_121 : Cond.fieldLinkNest RX7 121 "ThirdDay$Court" "size" "I" "ThirdDay" ∈ wN := tN 121 (by decide +kernel) rfl
set_option maxRecDepth 100000 in
theorem fk_X7_126 : Cond.fieldLinkNest RX7 126 "ThirdDay$Court" "men" "[LThirdDay$Man;" "ThirdDay" ∈ wN := tN 115 (by decide +kernel) rfl
set_option maxRecDepth 100000 in
theorem fk_X7_151 : Cond.fieldLinkNest RX7 151 "ThirdDay$Court" "heat" "I" "ThirdDay" ∈ wN := tN 129 (by decide +kernel) rfl
set_option maxRecDepth 100000 in
theorem fk_X7_166 : Cond.fieldLinkNest RX7 166 "ThirdDay$Court" "deeds" "LThirdDay$Deeds;" "ThirdDay" ∈ wN := tN 118 (by decide +kernel) rfl
set_option maxRecDepth 100000 in
theorem fk_X7_177 : Cond.fieldLinkNest RX7 177 "ThirdDay$Man" "salve" "I" "ThirdDay" ∈ wN := tN 71 (by decide +kernel) rfl
set_option maxRecDepth 100000 in
theorem fk_X7_183 : Cond.fieldLinkNest RX7 183 "ThirdDay$Man" "wronged" "Z" "ThirdDay" ∈ wN := tN 77 (by decide +kernel) rfl
set_option maxRecDepth 100000 in
theorem fk_X7_187 : Cond.fieldLinkNest RX7 187 "ThirdDay$Man" "verdict" "I" "ThirdDay" ∈ wN := tN 74 (by decide +kernel) rfl
set_option maxRecDepth 100000 in
theorem fk_X7_214 : Cond.fieldLinkNest RX7 214 "ThirdDay$Man" "guilt" "I" "ThirdDay" ∈ wN := tN 63 (by decide +kernel) rfl
set_option maxRecDepth 100000 in
theorem fk_X7_268 : Cond.fieldLinkNest RX7 268 "ThirdDay$Man" "hand" "I" "ThirdDay" ∈ wN := tN 68 (by decide +kernel) rfl
set_option maxRecDepth 100000 in
theorem fk_X7_275 : Cond.fieldLinkNest RX7 275 "ThirdDay$Man" "kind" "I" "ThirdDay" ∈ wN := tN 60 (by decide +kernel) rfl
set_option maxRecDepth 100000 in
theorem fk_X7_308 : Cond.fieldLink RX7 308 "ThirdDay" "upperTold" "J" ∈ wA := tA 208 (by decide +kernel) rfl
set_option maxRecDepth 100000 in
theorem fk_X7_327 : Cond.fieldLink RX7 327 "ThirdDay" "latestFinding" "I" ∈ wA := tA 206 (by decide +kernel) rfl
set_option maxRecDepth 100000 in
theorem fk_X0_11 : Cond.fieldLink RX0 11 "ThirdDay$Court" "men" "[LThirdDay$Man;" ∈ wA := tA 113 (by decide +kernel) rfl
set_option maxRecDepth 100000 in
theorem fk_X0_18 : Cond.fieldLink RX0 18 "ThirdDay$Court" "supposed" "LThirdDay$Man;" ∈ wA := tA 116 (by decide +kernel) rfl
set_option maxRecDepth 100000 in
theorem fk_X0_27 : Cond.fieldLink RX0 27 "ThirdDay$Court" "deeds" "LThirdDay$Deeds;" ∈ wA := tA 117 (by decide +kernel) rfl
set_option maxRecDepth 100000 in
theorem fk_X0_31 : Cond.fieldLink RX0 31 "ThirdDay$Court" "heat" "I" ∈ wA := tA 126 (by decide +kernel) rfl
set_option maxRecDepth 100000 in
theorem fk_X0_35 : Cond.fieldLinkNest RX0 35 "ThirdDay$Reader" "numbers" "[I" "ThirdDay" ∈ wN := tN 30 (by decide +kernel) rfl
set_option maxRecDepth 100000 in
theorem fk_X0_41 : Cond.fieldLink RX0 41 "ThirdDay$Court" "pounds" "I" ∈ wA := tA 122 (by decide +kernel) rfl
set_option maxRecDepth 100000 in
theorem fk_X0_44 : Cond.fieldLink RX0 44 "ThirdDay$Court" "mercy" "I" ∈ wA := tA 123 (by decide +kernel) rfl
set_option maxRecDepth 100000 in
theorem fk_X0_47 : Cond.fieldLink RX0 47 "ThirdDay$Court" "heals" "I" ∈ wA := tA 124 (by decide +kernel) rfl
set_option maxRecDepth 100000 in
theorem fk_X0_50 : Cond.fieldLink RX0 50 "ThirdDay$Court" "king" "I" ∈ wA := tA 125 (by decide +kernel) rfl
set_option maxRecDepth 100000 in
theorem fk_X0_53 : Cond.fieldLinkNest RX0 53 "ThirdDay$Reader" "men" "I" "ThirdDay" ∈ wN := tN 33 (by decide +kernel) rfl
set_option maxRecDepth 100000 in
theorem fk_X0_55 : Cond.fieldLink RX0 55 "ThirdDay$Court" "size" "I" ∈ wA := tA 120 (by decide +kernel) rfl
set_option maxRecDepth 100000 in
theorem fk_X0_62 : Cond.fieldLinkNest RX0 62 "ThirdDay$Deeds" "size" "I" "ThirdDay" ∈ wN := tN 104 (by decide +kernel) rfl
set_option maxRecDepth 100000 in
theorem fk_X0_66 : Cond.fieldLinkNest RX0 66 "ThirdDay$Man" "kind" "I" "ThirdDay" ∈ wN := tN 59 (by decide +kernel) rfl
set_option maxRecDepth 100000 in
theorem fk_X0_69 : Cond.fieldLinkNest RX0 69 "ThirdDay$Man" "guilt" "I" "ThirdDay" ∈ wN := tN 62 (by decide +kernel) rfl
set_option maxRecDepth 100000 in
theorem fk_X0_72 : Cond.fieldLinkNest RX0 72 "ThirdDay$Man" "belief" "I" "ThirdDay" ∈ wN := tN 65 (by decide +kernel) rfl
set_option maxRecDepth 100000 in
theorem fk_X0_90 : Cond.fieldLinkNest RX0 90 "ThirdDay$Man" "salve" "I" "ThirdDay" ∈ wN := tN 70 (by decide +kernel) rfl
set_option maxRecDepth 100000 in
theorem fk_X0_93 : Cond.fieldLinkNest RX0 93 "ThirdDay$Man" "verdict" "I" "ThirdDay" ∈ wN := tN 73 (by decide +kernel) rfl
set_option maxRecDepth 100000 in
theorem fk_X0_106 : Cond.fieldLinkNest RX0 106 "ThirdDay$Deeds" "whats" "[I" "ThirdDay" ∈ wN := tN 100 (by decide +kernel) rfl
set_option maxRecDepth 100000 in
theorem fk_X0_109 : Cond.fieldLinkNest RX0 109 "ThirdDay$Deeds" "hows" "[I" "ThirdDay" ∈ wN := tN 102 (by decide +kernel) rfl
set_option maxRecDepth 100000 in
theorem fk_X0_121 : Cond.fieldLinkNest RX0 121 "ThirdDay$Man" "wronged" "Z" "ThirdDay" ∈ wN := tN 76 (by decide +kernel) rfl
set_option maxRecDepth 100000 in
theorem fk_X0_148 : Cond.fieldLinkNest RX0 148 "ThirdDay$Man" "hand" "I" "ThirdDay" ∈ wN := tN 67 (by decide +kernel) rfl
set_option maxRecDepth 100000 in
theorem fk_X0_155 : Cond.fieldLinkNest RX0 155 "ThirdDay$Row" "size" "I" "ThirdDay" ∈ wN := tN 191 (by decide +kernel) rfl
set_option maxRecDepth 100000 in
theorem fk_X0_158 : Cond.fieldLinkNest RX0 158 "ThirdDay$Row" "places" "[I" "ThirdDay" ∈ wN := tN 186 (by decide +kernel) rfl
set_option maxRecDepth 100000 in
theorem fk_X1_9 : Cond.fieldLink RX1 9 "ThirdDay$Deeds" "whats" "[I" ∈ wA := tA 99 (by decide +kernel) rfl
set_option maxRecDepth 100000 in
theorem fk_X1_15 : Cond.fieldLink RX1 15 "ThirdDay$Deeds" "hows" "[I" ∈ wA := tA 101 (by decide +kernel) rfl
set_option maxRecDepth 100000 in
theorem fk_X1_18 : Cond.fieldLink RX1 18 "ThirdDay$Deeds" "size" "I" ∈ wA := tA 103 (by decide +kernel) rfl
set_option maxRecDepth 100000 in
theorem fk_X2_9 : Cond.fieldLink RX2 9 "ThirdDay$Duel" "worth" "[I" ∈ wA := tA 170 (by decide +kernel) rfl
set_option maxRecDepth 100000 in
theorem fk_X2_15 : Cond.fieldLink RX2 15 "ThirdDay$Duel" "worthAhead" "[I" ∈ wA := tA 171 (by decide +kernel) rfl
set_option maxRecDepth 100000 in
theorem fk_X2_28 : Cond.fieldLinkNest RX2 28 "ThirdDay$Court" "heat" "I" "ThirdDay" ∈ wN := tN 128 (by decide +kernel) rfl
set_option maxRecDepth 100000 in
theorem fk_X3_9 : Cond.fieldLink RX3 9 "ThirdDay$Man" "verdict" "I" ∈ wA := tA 72 (by decide +kernel) rfl
set_option maxRecDepth 100000 in
theorem fk_X3_15 : Cond.fieldLink RX3 15 "ThirdDay$Man" "kind" "I" ∈ wA := tA 58 (by decide +kernel) rfl
set_option maxRecDepth 100000 in
theorem fk_X3_18 : Cond.fieldLink RX3 18 "ThirdDay$Man" "guilt" "I" ∈ wA := tA 61 (by decide +kernel) rfl
set_option maxRecDepth 100000 in
theorem fk_X3_21 : Cond.fieldLink RX3 21 "ThirdDay$Man" "belief" "I" ∈ wA := tA 64 (by decide +kernel) rfl
set_option maxRecDepth 100000 in
theorem fk_X3_24 : Cond.fieldLink RX3 24 "ThirdDay$Man" "hand" "I" ∈ wA := tA 66 (by decide +kernel) rfl
set_option maxRecDepth 100000 in
theorem fk_X3_27 : Cond.fieldLink RX3 27 "ThirdDay$Man" "salve" "I" ∈ wA := tA 69 (by decide +kernel) rfl
set_option maxRecDepth 100000 in
theorem fk_X3_30 : Cond.fieldLink RX3 30 "ThirdDay$Man" "wronged" "Z" ∈ wA := tA 75 (by decide +kernel) rfl
set_option maxRecDepth 100000 in
theorem fk_X4_9 : Cond.fieldLink RX4 9 "ThirdDay$Orders" "path" "[I" ∈ wA := tA 157 (by decide +kernel) rfl
set_option maxRecDepth 100000 in
theorem fk_X4_15 : Cond.fieldLinkNest RX4 15 "ThirdDay$Court" "size" "I" "ThirdDay" ∈ wN := tN 119 (by decide +kernel) rfl
set_option maxRecDepth 100000 in
theorem fk_X4_37 : Cond.fieldLink RX4 37 "ThirdDay$Orders" "fewest" "I" ∈ wA := tA 158 (by decide +kernel) rfl
set_option maxRecDepth 100000 in
theorem fk_X4_43 : Cond.fieldLinkNest RX4 43 "ThirdDay$Court" "heat" "I" "ThirdDay" ∈ wN := tN 127 (by decide +kernel) rfl
set_option maxRecDepth 100000 in
theorem fk_X4_50 : Cond.fieldLinkNest RX4 50 "ThirdDay$Row" "places" "[I" "ThirdDay" ∈ wN := tN 184 (by decide +kernel) rfl
set_option maxRecDepth 100000 in
theorem fk_X4_53 : Cond.fieldLinkNest RX4 53 "ThirdDay$Row" "size" "I" "ThirdDay" ∈ wN := tN 189 (by decide +kernel) rfl
set_option maxRecDepth 100000 in
theorem fk_X4_60 : Cond.fieldLinkNest RX4 60 "ThirdDay$Court" "men" "[LThirdDay$Man;" "ThirdDay" ∈ wN := tN 114 (by decide +kernel) rfl
set_option maxRecDepth 100000 in
theorem fk_X5_11 : Cond.fieldLink RX5 11 "ThirdDay$Reader" "numbers" "[I" ∈ wA := tA 29 (by decide +kernel) rfl
set_option maxRecDepth 100000 in
theorem fk_X5_15 : Cond.fieldLink RX5 15 "ThirdDay$Reader" "taken" "I" ∈ wA := tA 31 (by decide +kernel) rfl
set_option maxRecDepth 100000 in
theorem fk_X5_19 : Cond.fieldLink RX5 19 "ThirdDay$Reader" "men" "I" ∈ wA := tA 32 (by decide +kernel) rfl
set_option maxRecDepth 100000 in
theorem fk_X5_22 : Cond.fieldLink RX5 22 "ThirdDay$Reader" "place" "I" ∈ wA := tA 34 (by decide +kernel) rfl
set_option maxRecDepth 100000 in
theorem fk_X5_33 : Cond.fieldLinkNest RX5 33 "ThirdDay$Row" "size" "I" "ThirdDay" ∈ wN := tN 188 (by decide +kernel) rfl
set_option maxRecDepth 100000 in
theorem fk_X5_41 : Cond.fieldLinkNest RX5 41 "ThirdDay$Row" "places" "[I" "ThirdDay" ∈ wN := tN 183 (by decide +kernel) rfl
set_option maxRecDepth 100000 in
theorem fk_X6_9 : Cond.fieldLink RX6 9 "ThirdDay$Row" "size" "I" ∈ wA := tA 187 (by decide +kernel) rfl
set_option maxRecDepth 100000 in
theorem fk_X6_15 : Cond.fieldLink RX6 15 "ThirdDay$Row" "places" "[I" ∈ wA := tA 182 (by decide +kernel) rfl
set_option maxRecDepth 100000 in
theorem fk_X8_7 : Cond.fieldLink RX8 7 "ThirdDayModel" "row" "[I" ∈ wA := tA 760 (by decide +kernel) rfl
set_option maxRecDepth 100000 in
theorem fk_X8_13 : Cond.fieldLink RX8 13 "ThirdDayModel" "kinds" "[I" ∈ wA := tA 766 (by decide +kernel) rfl
set_option maxRecDepth 100000 in
theorem fk_X8_16 : Cond.fieldLink RX8 16 "ThirdDayModel" "guilts" "[I" ∈ wA := tA 767 (by decide +kernel) rfl
set_option maxRecDepth 100000 in
theorem fk_X8_19 : Cond.fieldLink RX8 19 "ThirdDayModel" "beliefs" "[I" ∈ wA := tA 768 (by decide +kernel) rfl
set_option maxRecDepth 100000 in
theorem fk_X8_22 : Cond.fieldLink RX8 22 "ThirdDayModel" "hands" "[I" ∈ wA := tA 769 (by decide +kernel) rfl
set_option maxRecDepth 100000 in
theorem fk_X8_25 : Cond.fieldLink RX8 25 "ThirdDayModel" "sizes" "[I" ∈ wA := tA 770 (by decide +kernel) rfl
set_option maxRecDepth 100000 in
theorem fk_X8_28 : Cond.fieldLink RX8 28 "ThirdDayModel" "items" "[I" ∈ wA := tA 771 (by decide +kernel) rfl
set_option maxRecDepth 100000 in
theorem fk_X8_31 : Cond.fieldLink RX8 31 "ThirdDayModel" "lengths" "[I" ∈ wA := tA 772 (by decide +kernel) rfl
set_option maxRecDepth 100000 in
theorem fk_X8_34 : Cond.fieldLink RX8 34 "ThirdDayModel" "bytes" "[I" ∈ wA := tA 773 (by decide +kernel) rfl
set_option maxRecDepth 100000 in
theorem fk_X8_37 : Cond.fieldLink RX8 37 "ThirdDayModel" "lower" "J" ∈ wA := tA 776 (by decide +kernel) rfl
set_option maxRecDepth 100000 in
theorem fk_X8_41 : Cond.fieldLink RX8 41 "ThirdDayModel" "findings" "[I" ∈ wA := tA 778 (by decide +kernel) rfl
set_option maxRecDepth 100000 in
theorem fk_X8_44 : Cond.fieldLink RX8 44 "ThirdDayModel" "readCourt" "[I" ∈ wA := tA 782 (by decide +kernel) rfl
set_option maxRecDepth 100000 in
theorem fk_X8_47 : Cond.fieldLink RX8 47 "ThirdDayModel" "readMen" "[I" ∈ wA := tA 783 (by decide +kernel) rfl
set_option maxRecDepth 100000 in
theorem fk_X8_50 : Cond.fieldLink RX8 50 "ThirdDayModel" "line" "[I" ∈ wA := tA 785 (by decide +kernel) rfl
set_option maxRecDepth 100000 in
theorem fk_X8_53 : Cond.fieldLink RX8 53 "ThirdDayModel" "parts" "[I" ∈ wA := tA 787 (by decide +kernel) rfl
set_option maxRecDepth 100000 in
theorem fk_X8_56 : Cond.fieldLink RX8 56 "ThirdDayModel" "fouls" "[I" ∈ wA := tA 788 (by decide +kernel) rfl
set_option maxRecDepth 100000 in
theorem fk_X8_59 : Cond.fieldLink RX8 59 "ThirdDayModel" "before" "[I" ∈ wA := tA 789 (by decide +kernel) rfl
set_option maxRecDepth 100000 in
theorem fk_X8_65 : Cond.fieldLink RX8 65 "ThirdDayModel" "finding" "I" ∈ wA := tA 777 (by decide +kernel) rfl
set_option maxRecDepth 100000 in
theorem fk_X8_69 : Cond.fieldLink RX8 69 "ThirdDayModel" "asked" "I" ∈ wA := tA 774 (by decide +kernel) rfl
set_option maxRecDepth 100000 in
theorem fk_X8_106 : Cond.fieldLink RX8 106 "ThirdDayModel" "from" "I" ∈ wA := tA 779 (by decide +kernel) rfl
set_option maxRecDepth 100000 in
theorem fk_X8_109 : Cond.fieldLink RX8 109 "ThirdDayModel" "place" "I" ∈ wA := tA 780 (by decide +kernel) rfl
set_option maxRecDepth 100000 in
theorem fk_X8_112 : Cond.fieldLink RX8 112 "ThirdDayModel" "end" "I" ∈ wA := tA 781 (by decide +kernel) rfl
set_option maxRecDepth 100000 in
theorem fk_X8_129 : Cond.fieldLink RX8 129 "ThirdDayModel" "readMany" "I" ∈ wA := tA 784 (by decide +kernel) rfl
set_option maxRecDepth 100000 in
theorem fk_X8_145 : Cond.fieldLink RX8 145 "ThirdDayModel" "pounds" "I" ∈ wA := tA 761 (by decide +kernel) rfl
set_option maxRecDepth 100000 in
theorem fk_X8_148 : Cond.fieldLink RX8 148 "ThirdDayModel" "mercy" "I" ∈ wA := tA 762 (by decide +kernel) rfl
set_option maxRecDepth 100000 in
theorem fk_X8_151 : Cond.fieldLink RX8 151 "ThirdDayModel" "heals" "I" ∈ wA := tA 763 (by decide +kernel) rfl
set_option maxRecDepth 100000 in
theorem fk_X8_154 : Cond.fieldLink RX8 154 "ThirdDayModel" "king" "I" ∈ wA := tA 764 (by decide +kernel) rfl
set_option maxRecDepth 100000 in
theorem fk_X8_157 : Cond.fieldLink RX8 157 "ThirdDayModel" "men" "I" ∈ wA := tA 765 (by decide +kernel) rfl
set_option maxRecDepth 100000 in
theorem fk_X8_243 : Cond.fieldLink RX8 243 "ThirdDayModel" "upper" "J" ∈ wA := tA 775 (by decide +kernel) rfl
set_option maxRecDepth 100000 in
theorem fk_X8_250 : Cond.fieldLink RX8 250 "ThirdDayModel" "lineSize" "I" ∈ wA := tA 786 (by decide +kernel) rfl
set_option maxRecDepth 100000 in
theorem mk_X7_20 : Cond.methodLinkNest RX7 20 yX5_init "ThirdDay" ∈ wN := tN 25 (by decide +kernel) rfl
set_option maxRecDepth 100000 in
theorem mk_X7_27 : Cond.methodLink RX7 27 yX0_init ∈ wA := tA 47 (by decide +kernel) rfl
set_option maxRecDepth 100000 in
theorem mk_X7_40 : Cond.methodLinkNest RX7 40 yX4_init "ThirdDay" ∈ wN := tN 153 (by decide +kernel) rfl
set_option maxRecDepth 100000 in
theorem mk_X7_47 : Cond.methodLinkNest RX7 47 yX2_init "ThirdDay" ∈ wN := tN 166 (by decide +kernel) rfl
set_option maxRecDepth 100000 in
theorem mk_X7_60 : Cond.methodLink RX7 60 yX6_init ∈ wA := tA 178 (by decide +kernel) rfl
set_option maxRecDepth 100000 in
theorem mk_X7_63 : Cond.methodLink RX7 63 yX1_init ∈ wA := tA 197 (by decide +kernel) rfl
set_option maxRecDepth 100000 in
theorem mk_X7_64 : Cond.methodLink RX7 64 yX7_laidOut ∈ wA := tA 239 (by decide +kernel) rfl
set_option maxRecDepth 100000 in
theorem mk_X7_68 : Cond.methodLink RX7 68 yX7_placeRefusal ∈ wA := tA 258 (by decide +kernel) rfl
set_option maxRecDepth 100000 in
theorem mk_X7_79 : Cond.methodLink RX7 79 yX7_missingRefusal ∈ wA := tA 262 (by decide +kernel) rfl
set_option maxRecDepth 100000 in
theorem mk_X7_86 : Cond.methodLink RX7 86 yX7_isOneOf ∈ wA := tA 243 (by decide +kernel) rfl
set_option maxRecDepth 100000 in
theorem mk_X7_90 : Cond.methodLink RX7 90 yX7_found ∈ wA := tA 246 (by decide +kernel) rfl
set_option maxRecDepth 100000 in
theorem mk_X7_94 : Cond.methodLink RX7 94 yX6_isMissing ∈ wA := tA 266 (by decide +kernel) rfl
set_option maxRecDepth 100000 in
theorem mk_X7_98 : Cond.methodLink RX7 98 yX6_hasStretch ∈ wA := tA 282 (by decide +kernel) rfl
set_option maxRecDepth 100000 in
theorem mk_X7_108 : Cond.methodLink RX7 108 yX6_sum ∈ wA := tA 293 (by decide +kernel) rfl
set_option maxRecDepth 100000 in
theorem mk_X7_112 : Cond.methodLink RX7 112 yX5_read ∈ wA := tA 309 (by decide +kernel) rfl
set_option maxRecDepth 100000 in
theorem mk_X7_116 : Cond.methodLink RX7 116 yX0_assemble ∈ wA := tA 340 (by decide +kernel) rfl
set_option maxRecDepth 100000 in
theorem mk_X7_122 : Cond.methodLink RX7 122 yX7_isMan ∈ wA := tA 413 (by decide +kernel) rfl
set_option maxRecDepth 100000 in
theorem mk_X7_130 : Cond.methodLink RX7 130 yX0_detail ∈ wA := tA 417 (by decide +kernel) rfl
set_option maxRecDepth 100000 in
theorem mk_X7_134 : Cond.methodLink RX7 134 yX3_isOf ∈ wA := tA 425 (by decide +kernel) rfl
set_option maxRecDepth 100000 in
theorem mk_X7_139 : Cond.methodLink RX7 139 yX0_heatToSpare ∈ wA := tA 426 (by decide +kernel) rfl
set_option maxRecDepth 100000 in
theorem mk_X7_143 : Cond.methodLink RX7 143 yX0_likeButPlain ∈ wA := tA 430 (by decide +kernel) rfl
set_option maxRecDepth 100000 in
theorem mk_X7_147 : Cond.methodLink RX7 147 yX3_hardness ∈ wA := tA 438 (by decide +kernel) rfl
set_option maxRecDepth 100000 in
theorem mk_X7_160 : Cond.methodLink RX7 160 yX0_absent ∈ wA := tA 440 (by decide +kernel) rfl
set_option maxRecDepth 100000 in
theorem mk_X7_163 : Cond.methodLink RX7 163 yX0_felt ∈ wA := tA 444 (by decide +kernel) rfl
set_option maxRecDepth 100000 in
theorem mk_X7_170 : Cond.methodLink RX7 170 yX1_hasRoomFor ∈ wA := tA 449 (by decide +kernel) rfl
set_option maxRecDepth 100000 in
theorem mk_X7_173 : Cond.methodLink RX7 173 yX0_perform ∈ wA := tA 453 (by decide +kernel) rfl
set_option maxRecDepth 100000 in
theorem mk_X7_180 : Cond.methodLink RX7 180 yX3_isTried ∈ wA := tA 466 (by decide +kernel) rfl
set_option maxRecDepth 100000 in
theorem mk_X7_190 : Cond.methodLink RX7 190 yX0_actAgain ∈ wA := tA 478 (by decide +kernel) rfl
set_option maxRecDepth 100000 in
theorem mk_X7_193 : Cond.methodLink RX7 193 yX7_isKeptPlace ∈ wA := tA 483 (by decide +kernel) rfl
set_option maxRecDepth 100000 in
theorem mk_X7_196 : Cond.methodLink RX7 196 yX1_become ∈ wA := tA 486 (by decide +kernel) rfl
set_option maxRecDepth 100000 in
theorem mk_X7_200 : Cond.methodLink RX7 200 yX0_verdict ∈ wA := tA 498 (by decide +kernel) rfl
set_option maxRecDepth 100000 in
theorem mk_X7_202 : Cond.methodLink RX7 202 yX7_heatRefusal ∈ wA := tA 503 (by decide +kernel) rfl
set_option maxRecDepth 100000 in
theorem mk_X7_205 : Cond.methodLink RX7 205 yX0_guiltyWrongly ∈ wA := tA 507 (by decide +kernel) rfl
set_option maxRecDepth 100000 in
theorem mk_X7_208 : Cond.methodLink RX7 208 yX0_allWrongly ∈ wA := tA 516 (by decide +kernel) rfl
set_option maxRecDepth 100000 in
theorem mk_X7_211 : Cond.methodLink RX7 211 yX0_heatsTelling ∈ wA := tA 528 (by decide +kernel) rfl
set_option maxRecDepth 100000 in
theorem mk_X7_217 : Cond.methodLink RX7 217 yX7_tellFraction ∈ wA := tA 536 (by decide +kernel) rfl
set_option maxRecDepth 100000 in
theorem mk_X7_221 : Cond.methodLink RX7 221 yX7_rowRefusal ∈ wA := tA 547 (by decide +kernel) rfl
set_option maxRecDepth 100000 in
theorem mk_X7_224 : Cond.methodLink RX7 224 yX4_layBest ∈ wA := tA 551 (by decide +kernel) rfl
set_option maxRecDepth 100000 in
theorem mk_X7_228 : Cond.methodLink RX7 228 yX7_orderFinding ∈ wA := tA 579 (by decide +kernel) rfl
set_option maxRecDepth 100000 in
theorem mk_X7_231 : Cond.methodLink RX7 231 yX0_toldClean ∈ wA := tA 584 (by decide +kernel) rfl
set_option maxRecDepth 100000 in
theorem mk_X7_234 : Cond.methodLink RX7 234 yX3_wrongedBy ∈ wA := tA 585 (by decide +kernel) rfl
set_option maxRecDepth 100000 in
theorem mk_X7_237 : Cond.methodLink RX7 237 yX0_heatBehind ∈ wA := tA 586 (by decide +kernel) rfl
set_option maxRecDepth 100000 in
theorem mk_X7_241 : Cond.methodLink RX7 241 yX0_mustBeCleared ∈ wA := tA 591 (by decide +kernel) rfl
set_option maxRecDepth 100000 in
theorem mk_X7_245 : Cond.methodLink RX7 245 yX0_salveNeeded ∈ wA := tA 595 (by decide +kernel) rfl
set_option maxRecDepth 100000 in
theorem mk_X7_248 : Cond.methodLink RX7 248 yX7_trialsRefusal ∈ wA := tA 603 (by decide +kernel) rfl
set_option maxRecDepth 100000 in
theorem mk_X7_251 : Cond.methodLink RX7 251 yX0_heatsFitting ∈ wA := tA 610 (by decide +kernel) rfl
set_option maxRecDepth 100000 in
theorem mk_X7_254 : Cond.methodLink RX7 254 yJ6_bitCount_0f7a4 ∈ wA := tA 616 (by decide +kernel) rfl
set_option maxRecDepth 100000 in
theorem mk_X7_259 : Cond.methodLink RX7 259 yX0_greatestPart ∈ wA := tA 621 (by decide +kernel) rfl
set_option maxRecDepth 100000 in
theorem mk_X7_262 : Cond.methodLink RX7 262 yX7_suppositionRefusal ∈ wA := tA 630 (by decide +kernel) rfl
set_option maxRecDepth 100000 in
theorem mk_X7_265 : Cond.methodLink RX7 265 yX0_likeOf ∈ wA := tA 634 (by decide +kernel) rfl
set_option maxRecDepth 100000 in
theorem mk_X7_271 : Cond.methodLink RX7 271 yX0_wouldTell ∈ wA := tA 635 (by decide +kernel) rfl
set_option maxRecDepth 100000 in
theorem mk_X7_278 : Cond.methodLink RX7 278 yX2_foulAtLast ∈ wA := tA 647 (by decide +kernel) rfl
set_option maxRecDepth 100000 in
theorem mk_X7_282 : Cond.methodLink RX7 282 yX7_chanceRefusal ∈ wA := tA 666 (by decide +kernel) rfl
set_option maxRecDepth 100000 in
theorem mk_X7_285 : Cond.methodLink RX7 285 yX0_cleanChances ∈ wA := tA 670 (by decide +kernel) rfl
set_option maxRecDepth 100000 in
theorem mk_X7_290 : Cond.methodLink RX7 290 yX3_appears ∈ wA := tA 679 (by decide +kernel) rfl
set_option maxRecDepth 100000 in
theorem mk_X7_294 : Cond.methodLink RX7 294 yX0_toldWrongly ∈ wA := tA 685 (by decide +kernel) rfl
set_option maxRecDepth 100000 in
theorem mk_X7_305 : Cond.methodLink RX7 305 yX3_dueByLot ∈ wA := tA 693 (by decide +kernel) rfl
set_option maxRecDepth 100000 in
theorem mk_X7_311 : Cond.methodLink RX7 311 yX0_triedOnes ∈ wA := tA 583 (by decide +kernel) rfl
set_option maxRecDepth 100000 in
theorem mk_X7_314 : Cond.methodLink RX7 314 yX0_allSalve ∈ wA := tA 714 (by decide +kernel) rfl
set_option maxRecDepth 100000 in
theorem mk_X7_317 : Cond.methodLink RX7 317 yX0_ploughmen ∈ wA := tA 718 (by decide +kernel) rfl
set_option maxRecDepth 100000 in
theorem mk_X7_320 : Cond.methodLink RX7 320 yX7_howManyThere ∈ wA := tA 723 (by decide +kernel) rfl
set_option maxRecDepth 100000 in
theorem mk_X7_324 : Cond.methodLink RX7 324 yX7_courtsKept ∈ wA := tA 726 (by decide +kernel) rfl
set_option maxRecDepth 100000 in
theorem mk_X7_334 : Cond.methodLink RX7 334 yX7_count ∈ wA := tA 744 (by decide +kernel) rfl
set_option maxRecDepth 100000 in
theorem mk_X7_337 : Cond.methodLink RX7 337 yX6_digestOnto ∈ wA := tA 745 (by decide +kernel) rfl
set_option maxRecDepth 100000 in
theorem mk_X7_341 : Cond.methodLink RX7 341 yX6_layOut ∈ wA := tA 250 (by decide +kernel) rfl
set_option maxRecDepth 100000 in
theorem mk_X7_344 : Cond.methodLink RX7 344 yX7_pairsFinding ∈ wA := tA 607 (by decide +kernel) rfl
set_option maxRecDepth 100000 in
theorem mk_X7_348 : Cond.methodLink RX7 348 yX7_commonDivisor ∈ wA := tA 540 (by decide +kernel) rfl
set_option maxRecDepth 100000 in
theorem mk_X0_17 : Cond.methodLinkNest RX0 17 yX3_init "ThirdDay" ∈ wN := tN 54 (by decide +kernel) rfl
set_option maxRecDepth 100000 in
theorem mk_X0_24 : Cond.methodLink RX0 24 yX1_init ∈ wA := tA 95 (by decide +kernel) rfl
set_option maxRecDepth 100000 in
theorem mk_X0_58 : Cond.methodLink RX0 58 yX3_become ∈ wA := tA 344 (by decide +kernel) rfl
set_option maxRecDepth 100000 in
theorem mk_X0_63 : Cond.methodLink RX0 63 yX0_actAgain ∈ wA := tA 348 (by decide +kernel) rfl
set_option maxRecDepth 100000 in
theorem mk_X0_75 : Cond.methodLink RX0 75 yX3_hardness ∈ wA := tA 393 (by decide +kernel) rfl
set_option maxRecDepth 100000 in
theorem mk_X0_79 : Cond.methodLink RX0 79 yX0_burn ∈ wA := tA 385 (by decide +kernel) rfl
set_option maxRecDepth 100000 in
theorem mk_X0_83 : Cond.methodLink RX0 83 yX3_appears ∈ wA := tA 373 (by decide +kernel) rfl
set_option maxRecDepth 100000 in
theorem mk_X0_87 : Cond.methodLink RX0 87 yX0_lacking ∈ wA := tA 381 (by decide +kernel) rfl
set_option maxRecDepth 100000 in
theorem mk_X0_96 : Cond.methodLink RX0 96 yX1_add ∈ wA := tA 457 (by decide +kernel) rfl
set_option maxRecDepth 100000 in
theorem mk_X0_100 : Cond.methodLink RX0 100 yX0_act ∈ wA := tA 356 (by decide +kernel) rfl
set_option maxRecDepth 100000 in
theorem mk_X0_103 : Cond.methodLink RX0 103 yX3_forgetDeeds ∈ wA := tA 352 (by decide +kernel) rfl
set_option maxRecDepth 100000 in
theorem mk_X0_112 : Cond.methodLink RX0 112 yX0_keptHeat ∈ wA := tA 360 (by decide +kernel) rfl
set_option maxRecDepth 100000 in
theorem mk_X0_116 : Cond.methodLink RX0 116 yX0_verdict ∈ wA := tA 369 (by decide +kernel) rfl
set_option maxRecDepth 100000 in
theorem mk_X0_118 : Cond.methodLink RX0 118 yX3_wrongedBy ∈ wA := tA 397 (by decide +kernel) rfl
set_option maxRecDepth 100000 in
theorem mk_X0_125 : Cond.methodLink RX0 125 yX0_toldClean ∈ wA := tA 401 (by decide +kernel) rfl
set_option maxRecDepth 100000 in
theorem mk_X0_128 : Cond.methodLink RX0 128 yX0_heatBehind ∈ wA := tA 405 (by decide +kernel) rfl
set_option maxRecDepth 100000 in
theorem mk_X0_141 : Cond.methodLink RX0 141 yX0_felt ∈ wA := tA 389 (by decide +kernel) rfl
set_option maxRecDepth 100000 in
theorem mk_X0_144 : Cond.methodLink RX0 144 yX3_isTried ∈ wA := tA 515 (by decide +kernel) rfl
set_option maxRecDepth 100000 in
theorem mk_X0_151 : Cond.methodLink RX0 151 yX0_likeOf ∈ wA := tA 434 (by decide +kernel) rfl
set_option maxRecDepth 100000 in
theorem mk_X0_161 : Cond.methodLink RX0 161 yX0_wouldWrong ∈ wA := tA 511 (by decide +kernel) rfl
set_option maxRecDepth 100000 in
theorem mk_X0_166 : Cond.methodLink RX0 166 yX0_heatsTelling ∈ wA := tA 615 (by decide +kernel) rfl
set_option maxRecDepth 100000 in
theorem mk_X0_169 : Cond.methodLink RX0 169 yJ6_bitCount_0f7a4 ∈ wA := tA 625 (by decide +kernel) rfl
set_option maxRecDepth 100000 in
theorem mk_X0_174 : Cond.methodLink RX0 174 yX3_isOf ∈ wA := tA 722 (by decide +kernel) rfl
set_option maxRecDepth 100000 in
theorem mk_X1_22 : Cond.methodLink RX1 22 yX1_hasRoomFor ∈ wA := tA 461 (by decide +kernel) rfl
set_option maxRecDepth 100000 in
theorem mk_X2_18 : Cond.methodLink RX2 18 yX0_foulOnes ∈ wA := tA 651 (by decide +kernel) rfl
set_option maxRecDepth 100000 in
theorem mk_X2_24 : Cond.methodLink RX2 24 yX2_chosen ∈ wA := tA 655 (by decide +kernel) rfl
set_option maxRecDepth 100000 in
theorem mk_X2_32 : Cond.methodLink RX2 32 yX0_keptHeat ∈ wA := tA 659 (by decide +kernel) rfl
set_option maxRecDepth 100000 in
theorem mk_X3_34 : Cond.methodLink RX3 34 yX3_isOf ∈ wA := tA 377 (by decide +kernel) rfl
set_option maxRecDepth 100000 in
theorem mk_X3_38 : Cond.methodLink RX3 38 yX3_isTried ∈ wA := tA 697 (by decide +kernel) rfl
set_option maxRecDepth 100000 in
theorem mk_X4_21 : Cond.methodLink RX4 21 yX0_triedOnes ∈ wA := tA 555 (by decide +kernel) rfl
set_option maxRecDepth 100000 in
theorem mk_X4_25 : Cond.methodLink RX4 25 yJ6_bitCount_0f7a4 ∈ wA := tA 559 (by decide +kernel) rfl
set_option maxRecDepth 100000 in
theorem mk_X4_31 : Cond.methodLink RX4 31 yX6_layOut ∈ wA := tA 565 (by decide +kernel) rfl
set_option maxRecDepth 100000 in
theorem mk_X4_40 : Cond.methodLink RX4 40 yX0_toldClean ∈ wA := tA 566 (by decide +kernel) rfl
set_option maxRecDepth 100000 in
theorem mk_X4_46 : Cond.methodLink RX4 46 yX4_goOn ∈ wA := tA 567 (by decide +kernel) rfl
set_option maxRecDepth 100000 in
theorem mk_X4_64 : Cond.methodLink RX4 64 yX0_verdict ∈ wA := tA 572 (by decide +kernel) rfl
set_option maxRecDepth 100000 in
theorem mk_X4_68 : Cond.methodLink RX4 68 yX3_wrongedBy ∈ wA := tA 573 (by decide +kernel) rfl
set_option maxRecDepth 100000 in
theorem mk_X4_74 : Cond.methodLink RX4 74 yX0_heatBehind ∈ wA := tA 574 (by decide +kernel) rfl
set_option maxRecDepth 100000 in
theorem mk_X5_25 : Cond.methodLink RX5 25 yX5_passBlanks ∈ wA := tA 313 (by decide +kernel) rfl
set_option maxRecDepth 100000 in
theorem mk_X5_29 : Cond.methodLink RX5 29 yX5_takeIron ∈ wA := tA 317 (by decide +kernel) rfl
set_option maxRecDepth 100000 in
theorem mk_X5_38 : Cond.methodLink RX5 38 yX5_takeMan ∈ wA := tA 329 (by decide +kernel) rfl
set_option maxRecDepth 100000 in
theorem mk_X5_44 : Cond.methodLink RX5 44 yX5_takeFigure ∈ wA := tA 321 (by decide +kernel) rfl
set_option maxRecDepth 100000 in
theorem mk_X5_48 : Cond.methodLink RX5 48 yX5_kindOf ∈ wA := tA 333 (by decide +kernel) rfl
set_option maxRecDepth 100000 in
theorem mk_X5_52 : Cond.methodLink RX5 52 yX5_take ∈ wA := tA 325 (by decide +kernel) rfl
set_option maxRecDepth 100000 in
theorem mk_L_9 : Cond.methodLink RL 9 yX7_init ∈ wA := tA 15 (by decide +kernel) rfl
set_option maxRecDepth 100000 in
theorem mk_L_12 : Cond.methodLink RL 12 yX8_init ∈ wA := tA 752 (by decide +kernel) rfl
set_option maxRecDepth 100000 in
theorem mk_L_13 : Cond.methodLink RL 13 yX7_row ∈ wA := tA 235 (by decide +kernel) rfl
set_option maxRecDepth 100000 in
theorem mk_L_17 : Cond.methodLink RL 17 yX8_row ∈ wA := tA 851 (by decide +kernel) rfl
set_option maxRecDepth 100000 in
theorem mk_L_18 : Cond.methodLink RL 18 yX7_lay ∈ wA := tA 254 (by decide +kernel) rfl
set_option maxRecDepth 100000 in
theorem mk_L_22 : Cond.methodLink RL 22 yX8_lay ∈ wA := tA 870 (by decide +kernel) rfl
set_option maxRecDepth 100000 in
theorem mk_L_23 : Cond.methodLink RL 23 yX7_at ∈ wA := tA 270 (by decide +kernel) rfl
set_option maxRecDepth 100000 in
theorem mk_L_26 : Cond.methodLink RL 26 yX8_at ∈ wA := tA 882 (by decide +kernel) rfl
set_option maxRecDepth 100000 in
theorem mk_L_27 : Cond.methodLink RL 27 yX7_tear ∈ wA := tA 274 (by decide +kernel) rfl
set_option maxRecDepth 100000 in
theorem mk_L_31 : Cond.methodLink RL 31 yX8_tear ∈ wA := tA 886 (by decide +kernel) rfl
set_option maxRecDepth 100000 in
theorem mk_L_32 : Cond.methodLink RL 32 yX7_copy ∈ wA := tA 278 (by decide +kernel) rfl
set_option maxRecDepth 100000 in
theorem mk_L_36 : Cond.methodLink RL 36 yX8_copy ∈ wA := tA 890 (by decide +kernel) rfl
set_option maxRecDepth 100000 in
theorem mk_L_37 : Cond.methodLink RL 37 yX7_mean ∈ wA := tA 289 (by decide +kernel) rfl
set_option maxRecDepth 100000 in
theorem mk_L_40 : Cond.methodLink RL 40 yX8_mean ∈ wA := tA 898 (by decide +kernel) rfl
set_option maxRecDepth 100000 in
theorem mk_L_41 : Cond.methodLink RL 41 yX7_text ∈ wA := tA 297 (by decide +kernel) rfl
set_option maxRecDepth 100000 in
theorem mk_L_44 : Cond.methodLink RL 44 yX8_text ∈ wA := tA 902 (by decide +kernel) rfl
set_option maxRecDepth 100000 in
theorem mk_L_45 : Cond.methodLink RL 45 yX7_put ∈ wA := tA 301 (by decide +kernel) rfl
set_option maxRecDepth 100000 in
theorem mk_L_48 : Cond.methodLink RL 48 yX8_put ∈ wA := tA 910 (by decide +kernel) rfl
set_option maxRecDepth 100000 in
theorem mk_L_49 : Cond.methodLink RL 49 yX7_fault ∈ wA := tA 305 (by decide +kernel) rfl
set_option maxRecDepth 100000 in
theorem mk_L_52 : Cond.methodLink RL 52 yX8_fault ∈ wA := tA 914 (by decide +kernel) rfl
set_option maxRecDepth 100000 in
theorem mk_L_53 : Cond.methodLink RL 53 yX7_court ∈ wA := tA 336 (by decide +kernel) rfl
set_option maxRecDepth 100000 in
theorem mk_L_56 : Cond.methodLink RL 56 yX8_court ∈ wA := tA 949 (by decide +kernel) rfl
set_option maxRecDepth 100000 in
theorem mk_L_57 : Cond.methodLink RL 57 yX7_man ∈ wA := tA 409 (by decide +kernel) rfl
set_option maxRecDepth 100000 in
theorem mk_L_60 : Cond.methodLink RL 60 yX8_man ∈ wA := tA 953 (by decide +kernel) rfl
set_option maxRecDepth 100000 in
theorem mk_L_61 : Cond.methodLink RL 61 yX7_mark ∈ wA := tA 421 (by decide +kernel) rfl
set_option maxRecDepth 100000 in
theorem mk_L_64 : Cond.methodLink RL 64 yX8_mark ∈ wA := tA 1003 (by decide +kernel) rfl
set_option maxRecDepth 100000 in
theorem mk_L_65 : Cond.methodLink RL 65 yX7_heat ∈ wA := tA 445 (by decide +kernel) rfl
set_option maxRecDepth 100000 in
theorem mk_L_68 : Cond.methodLink RL 68 yX8_heat ∈ wA := tA 1019 (by decide +kernel) rfl
set_option maxRecDepth 100000 in
theorem mk_L_69 : Cond.methodLink RL 69 yX7_salve ∈ wA := tA 462 (by decide +kernel) rfl
set_option maxRecDepth 100000 in
theorem mk_L_72 : Cond.methodLink RL 72 yX8_salve ∈ wA := tA 1031 (by decide +kernel) rfl
set_option maxRecDepth 100000 in
theorem mk_L_73 : Cond.methodLink RL 73 yX7_trial ∈ wA := tA 470 (by decide +kernel) rfl
set_option maxRecDepth 100000 in
theorem mk_L_76 : Cond.methodLink RL 76 yX8_trial ∈ wA := tA 1042 (by decide +kernel) rfl
set_option maxRecDepth 100000 in
theorem mk_L_77 : Cond.methodLink RL 77 yX7_undo ∈ wA := tA 474 (by decide +kernel) rfl
set_option maxRecDepth 100000 in
theorem mk_L_80 : Cond.methodLink RL 80 yX8_undo ∈ wA := tA 1058 (by decide +kernel) rfl
set_option maxRecDepth 100000 in
theorem mk_L_81 : Cond.methodLink RL 81 yX7_keep ∈ wA := tA 479 (by decide +kernel) rfl
set_option maxRecDepth 100000 in
theorem mk_L_84 : Cond.methodLink RL 84 yX8_keep ∈ wA := tA 1062 (by decide +kernel) rfl
set_option maxRecDepth 100000 in
theorem mk_L_85 : Cond.methodLink RL 85 yX7_on ∈ wA := tA 490 (by decide +kernel) rfl
set_option maxRecDepth 100000 in
theorem mk_L_88 : Cond.methodLink RL 88 yX8_on ∈ wA := tA 1071 (by decide +kernel) rfl
set_option maxRecDepth 100000 in
theorem mk_L_89 : Cond.methodLink RL 89 yX7_comes ∈ wA := tA 494 (by decide +kernel) rfl
set_option maxRecDepth 100000 in
theorem mk_L_93 : Cond.methodLink RL 93 yX8_comes ∈ wA := tA 1075 (by decide +kernel) rfl
set_option maxRecDepth 100000 in
theorem mk_L_94 : Cond.methodLink RL 94 yX7_wrong ∈ wA := tA 499 (by decide +kernel) rfl
set_option maxRecDepth 100000 in
theorem mk_L_97 : Cond.methodLink RL 97 yX8_wrong ∈ wA := tA 1079 (by decide +kernel) rfl
set_option maxRecDepth 100000 in
theorem mk_L_98 : Cond.methodLink RL 98 yX7_best ∈ wA := tA 520 (by decide +kernel) rfl
set_option maxRecDepth 100000 in
theorem mk_L_101 : Cond.methodLink RL 101 yX8_best ∈ wA := tA 1088 (by decide +kernel) rfl
set_option maxRecDepth 100000 in
theorem mk_L_102 : Cond.methodLink RL 102 yX7_heats ∈ wA := tA 524 (by decide +kernel) rfl
set_option maxRecDepth 100000 in
theorem mk_L_105 : Cond.methodLink RL 105 yX8_heats ∈ wA := tA 1092 (by decide +kernel) rfl
set_option maxRecDepth 100000 in
theorem mk_L_106 : Cond.methodLink RL 106 yX7_tells ∈ wA := tA 532 (by decide +kernel) rfl
set_option maxRecDepth 100000 in
theorem mk_L_109 : Cond.methodLink RL 109 yX8_tells ∈ wA := tA 1096 (by decide +kernel) rfl
set_option maxRecDepth 100000 in
theorem mk_L_110 : Cond.methodLink RL 110 yX7_order ∈ wA := tA 543 (by decide +kernel) rfl
set_option maxRecDepth 100000 in
theorem mk_L_113 : Cond.methodLink RL 113 yX8_order ∈ wA := tA 1104 (by decide +kernel) rfl
set_option maxRecDepth 100000 in
theorem mk_L_114 : Cond.methodLink RL 114 yX7_tried ∈ wA := tA 575 (by decide +kernel) rfl
set_option maxRecDepth 100000 in
theorem mk_L_117 : Cond.methodLink RL 117 yX8_tried ∈ wA := tA 1128 (by decide +kernel) rfl
set_option maxRecDepth 100000 in
theorem mk_L_118 : Cond.methodLink RL 118 yX7_least ∈ wA := tA 587 (by decide +kernel) rfl
set_option maxRecDepth 100000 in
theorem mk_L_121 : Cond.methodLink RL 121 yX8_least ∈ wA := tA 1132 (by decide +kernel) rfl
set_option maxRecDepth 100000 in
theorem mk_L_122 : Cond.methodLink RL 122 yX7_fits ∈ wA := tA 599 (by decide +kernel) rfl
set_option maxRecDepth 100000 in
theorem mk_L_125 : Cond.methodLink RL 125 yX8_fits ∈ wA := tA 1136 (by decide +kernel) rfl
set_option maxRecDepth 100000 in
theorem mk_L_126 : Cond.methodLink RL 126 yX7_ask ∈ wA := tA 617 (by decide +kernel) rfl
set_option maxRecDepth 100000 in
theorem mk_L_129 : Cond.methodLink RL 129 yX8_ask ∈ wA := tA 1151 (by decide +kernel) rfl
set_option maxRecDepth 100000 in
theorem mk_L_130 : Cond.methodLink RL 130 yX7_hands ∈ wA := tA 626 (by decide +kernel) rfl
set_option maxRecDepth 100000 in
theorem mk_L_133 : Cond.methodLink RL 133 yX8_hands ∈ wA := tA 1159 (by decide +kernel) rfl
set_option maxRecDepth 100000 in
theorem mk_L_134 : Cond.methodLink RL 134 yX7_kinds ∈ wA := tA 639 (by decide +kernel) rfl
set_option maxRecDepth 100000 in
theorem mk_L_137 : Cond.methodLink RL 137 yX8_kinds ∈ wA := tA 1171 (by decide +kernel) rfl
set_option maxRecDepth 100000 in
theorem mk_L_138 : Cond.methodLink RL 138 yX7_duel ∈ wA := tA 643 (by decide +kernel) rfl
set_option maxRecDepth 100000 in
theorem mk_L_141 : Cond.methodLink RL 141 yX8_duel ∈ wA := tA 1175 (by decide +kernel) rfl
set_option maxRecDepth 100000 in
theorem mk_L_142 : Cond.methodLink RL 142 yX7_odds ∈ wA := tA 662 (by decide +kernel) rfl
set_option maxRecDepth 100000 in
theorem mk_L_145 : Cond.methodLink RL 145 yX8_odds ∈ wA := tA 1184 (by decide +kernel) rfl
set_option maxRecDepth 100000 in
theorem mk_L_146 : Cond.methodLink RL 146 yX7_mid ∈ wA := tA 675 (by decide +kernel) rfl
set_option maxRecDepth 100000 in
theorem mk_L_149 : Cond.methodLink RL 149 yX8_mid ∈ wA := tA 1197 (by decide +kernel) rfl
set_option maxRecDepth 100000 in
theorem mk_L_150 : Cond.methodLink RL 150 yX7_lots ∈ wA := tA 680 (by decide +kernel) rfl
set_option maxRecDepth 100000 in
theorem mk_L_153 : Cond.methodLink RL 153 yX8_lots ∈ wA := tA 1201 (by decide +kernel) rfl
set_option maxRecDepth 100000 in
theorem mk_L_154 : Cond.methodLink RL 154 yX7_asked ∈ wA := tA 698 (by decide +kernel) rfl
set_option maxRecDepth 100000 in
theorem mk_L_157 : Cond.methodLink RL 157 yX8_asked ∈ wA := tA 1210 (by decide +kernel) rfl
set_option maxRecDepth 100000 in
theorem mk_L_158 : Cond.methodLink RL 158 yX7_upper ∈ wA := tA 702 (by decide +kernel) rfl
set_option maxRecDepth 100000 in
theorem mk_L_162 : Cond.methodLink RL 162 yX8_upper ∈ wA := tA 1214 (by decide +kernel) rfl
set_option maxRecDepth 100000 in
theorem mk_L_163 : Cond.methodLink RL 163 yX7_lower ∈ wA := tA 706 (by decide +kernel) rfl
set_option maxRecDepth 100000 in
theorem mk_L_166 : Cond.methodLink RL 166 yX8_lower ∈ wA := tA 1218 (by decide +kernel) rfl
set_option maxRecDepth 100000 in
theorem mk_L_167 : Cond.methodLink RL 167 yX7_count ∈ wA := tA 710 (by decide +kernel) rfl
set_option maxRecDepth 100000 in
theorem mk_L_170 : Cond.methodLink RL 170 yX8_count ∈ wA := tA 1222 (by decide +kernel) rfl
set_option maxRecDepth 100000 in
theorem mk_L_171 : Cond.methodLink RL 171 yX7_finding ∈ wA := tA 730 (by decide +kernel) rfl
set_option maxRecDepth 100000 in
theorem mk_L_174 : Cond.methodLink RL 174 yX8_finding ∈ wA := tA 1239 (by decide +kernel) rfl
set_option maxRecDepth 100000 in
theorem mk_L_175 : Cond.methodLink RL 175 yX7_findings ∈ wA := tA 734 (by decide +kernel) rfl
set_option maxRecDepth 100000 in
theorem mk_L_178 : Cond.methodLink RL 178 yX8_findings ∈ wA := tA 1243 (by decide +kernel) rfl
set_option maxRecDepth 100000 in
theorem mk_L_179 : Cond.methodLink RL 179 yX7_digest ∈ wA := tA 738 (by decide +kernel) rfl
set_option maxRecDepth 100000 in
theorem mk_L_182 : Cond.methodLink RL 182 yX8_digest ∈ wA := tA 1247 (by decide +kernel) rfl
set_option maxRecDepth 100000 in
theorem mk_X8_62 : Cond.methodLink RX8 62 yX8_layBegun ∈ wA := tA 756 (by decide +kernel) rfl
set_option maxRecDepth 100000 in
theorem mk_X8_74 : Cond.methodLink RX8 74 yX8_in ∈ wA := tA 859 (by decide +kernel) rfl
set_option maxRecDepth 100000 in
theorem mk_X8_80 : Cond.methodLink RX8 80 yX8_isRow ∈ wA := tA 855 (by decide +kernel) rfl
set_option maxRecDepth 100000 in
theorem mk_X8_84 : Cond.methodLink RX8 84 yX8_find ∈ wA := tA 862 (by decide +kernel) rfl
set_option maxRecDepth 100000 in
theorem mk_X8_88 : Cond.methodLink RX8 88 yX8_makeRow ∈ wA := tA 866 (by decide +kernel) rfl
set_option maxRecDepth 100000 in
theorem mk_X8_92 : Cond.methodLink RX8 92 yX8_refused ∈ wA := tA 874 (by decide +kernel) rfl
set_option maxRecDepth 100000 in
theorem mk_X8_96 : Cond.methodLink RX8 96 yX8_tell ∈ wA := tA 878 (by decide +kernel) rfl
set_option maxRecDepth 100000 in
theorem mk_X8_99 : Cond.methodLink RX8 99 yX8_isSpan ∈ wA := tA 894 (by decide +kernel) rfl
set_option maxRecDepth 100000 in
theorem mk_X8_103 : Cond.methodLink RX8 103 yX8_isText ∈ wA := tA 906 (by decide +kernel) rfl
set_option maxRecDepth 100000 in
theorem mk_X8_115 : Cond.methodLink RX8 115 yX8_here ∈ wA := tA 930 (by decide +kernel) rfl
set_option maxRecDepth 100000 in
theorem mk_X8_119 : Cond.methodLink RX8 119 yX8_isFigure ∈ wA := tA 938 (by decide +kernel) rfl
set_option maxRecDepth 100000 in
theorem mk_X8_123 : Cond.methodLink RX8 123 yX8_skip ∈ wA := tA 926 (by decide +kernel) rfl
set_option maxRecDepth 100000 in
theorem mk_X8_126 : Cond.methodLink RX8 126 yX8_figure ∈ wA := tA 934 (by decide +kernel) rfl
set_option maxRecDepth 100000 in
theorem mk_X8_132 : Cond.methodLink RX8 132 yX8_kindOfLetter ∈ wA := tA 946 (by decide +kernel) rfl
set_option maxRecDepth 100000 in
theorem mk_X8_135 : Cond.methodLink RX8 135 yX8_readsIron ∈ wA := tA 922 (by decide +kernel) rfl
set_option maxRecDepth 100000 in
theorem mk_X8_139 : Cond.methodLink RX8 139 yX8_readsMan ∈ wA := tA 942 (by decide +kernel) rfl
set_option maxRecDepth 100000 in
theorem mk_X8_142 : Cond.methodLink RX8 142 yX8_faultOf ∈ wA := tA 918 (by decide +kernel) rfl
set_option maxRecDepth 100000 in
theorem mk_X8_160 : Cond.methodLink RX8 160 yX8_isClerk ∈ wA := tA 969 (by decide +kernel) rfl
set_option maxRecDepth 100000 in
theorem mk_X8_163 : Cond.methodLink RX8 163 yX8_some ∈ wA := tA 984 (by decide +kernel) rfl
set_option maxRecDepth 100000 in
theorem mk_X8_166 : Cond.methodLink RX8 166 yX8_plainFeels ∈ wA := tA 980 (by decide +kernel) rfl
set_option maxRecDepth 100000 in
theorem mk_X8_169 : Cond.methodLink RX8 169 yX8_hardBy ∈ wA := tA 966 (by decide +kernel) rfl
set_option maxRecDepth 100000 in
theorem mk_X8_172 : Cond.methodLink RX8 172 yX8_burnsBy ∈ wA := tA 976 (by decide +kernel) rfl
set_option maxRecDepth 100000 in
theorem mk_X8_176 : Cond.methodLink RX8 176 yX8_comesBy ∈ wA := tA 991 (by decide +kernel) rfl
set_option maxRecDepth 100000 in
theorem mk_X8_179 : Cond.methodLink RX8 179 yX8_burns ∈ wA := tA 972 (by decide +kernel) rfl
set_option maxRecDepth 100000 in
theorem mk_X8_182 : Cond.methodLink RX8 182 yX8_bearable ∈ wA := tA 999 (by decide +kernel) rfl
set_option maxRecDepth 100000 in
theorem mk_X8_185 : Cond.methodLink RX8 185 yX8_doesCome ∈ wA := tA 987 (by decide +kernel) rfl
set_option maxRecDepth 100000 in
theorem mk_X8_188 : Cond.methodLink RX8 188 yX8_isClean ∈ wA := tA 995 (by decide +kernel) rfl
set_option maxRecDepth 100000 in
theorem mk_X8_191 : Cond.methodLink RX8 191 yX8_isMan ∈ wA := tA 957 (by decide +kernel) rfl
set_option maxRecDepth 100000 in
theorem mk_X8_196 : Cond.methodLink RX8 196 yX8_toldOf ∈ wA := tA 962 (by decide +kernel) rfl
set_option maxRecDepth 100000 in
theorem mk_X8_199 : Cond.methodLink RX8 199 yX8_isOf ∈ wA := tA 1007 (by decide +kernel) rfl
set_option maxRecDepth 100000 in
theorem mk_X8_202 : Cond.methodLink RX8 202 yX8_moreHeat ∈ wA := tA 1011 (by decide +kernel) rfl
set_option maxRecDepth 100000 in
theorem mk_X8_205 : Cond.methodLink RX8 205 yX8_awayBut ∈ wA := tA 1015 (by decide +kernel) rfl
set_option maxRecDepth 100000 in
theorem mk_X8_210 : Cond.methodLink RX8 210 yX8_keepPast ∈ wA := tA 1024 (by decide +kernel) rfl
set_option maxRecDepth 100000 in
theorem mk_X8_213 : Cond.methodLink RX8 213 yX8_heatOf ∈ wA := tA 1028 (by decide +kernel) rfl
set_option maxRecDepth 100000 in
theorem mk_X8_216 : Cond.methodLink RX8 216 yX8_has ∈ wA := tA 1039 (by decide +kernel) rfl
set_option maxRecDepth 100000 in
theorem mk_X8_219 : Cond.methodLink RX8 219 yX8_isDone ∈ wA := tA 1035 (by decide +kernel) rfl
set_option maxRecDepth 100000 in
theorem mk_X8_222 : Cond.methodLink RX8 222 yX8_tellsAt ∈ wA := tA 1050 (by decide +kernel) rfl
set_option maxRecDepth 100000 in
theorem mk_X8_226 : Cond.methodLink RX8 226 yX8_isWrong ∈ wA := tA 1054 (by decide +kernel) rfl
set_option maxRecDepth 100000 in
theorem mk_X8_229 : Cond.methodLink RX8 229 yX8_tryAt ∈ wA := tA 1046 (by decide +kernel) rfl
set_option maxRecDepth 100000 in
theorem mk_X8_234 : Cond.methodLink RX8 234 yX8_copyCourt ∈ wA := tA 1067 (by decide +kernel) rfl
set_option maxRecDepth 100000 in
theorem mk_X8_239 : Cond.methodLink RX8 239 yX8_wrongBy ∈ wA := tA 1084 (by decide +kernel) rfl
set_option maxRecDepth 100000 in
theorem mk_X8_246 : Cond.methodLink RX8 246 yX8_tellParts ∈ wA := tA 1100 (by decide +kernel) rfl
set_option maxRecDepth 100000 in
theorem mk_X8_253 : Cond.methodLink RX8 253 yX8_swapLine ∈ wA := tA 1124 (by decide +kernel) rfl
set_option maxRecDepth 100000 in
theorem mk_X8_256 : Cond.methodLink RX8 256 yX8_layTried ∈ wA := tA 1116 (by decide +kernel) rfl
set_option maxRecDepth 100000 in
theorem mk_X8_259 : Cond.methodLink RX8 259 yX8_layLine ∈ wA := tA 1108 (by decide +kernel) rfl
set_option maxRecDepth 100000 in
theorem mk_X8_262 : Cond.methodLink RX8 262 yX8_wrongInLine ∈ wA := tA 1112 (by decide +kernel) rfl
set_option maxRecDepth 100000 in
theorem mk_X8_265 : Cond.methodLink RX8 265 yX8_nextLine ∈ wA := tA 1120 (by decide +kernel) rfl
set_option maxRecDepth 100000 in
theorem mk_X8_268 : Cond.methodLink RX8 268 yX8_noPairs ∈ wA := tA 1140 (by decide +kernel) rfl
set_option maxRecDepth 100000 in
theorem mk_X8_271 : Cond.methodLink RX8 271 yX8_fitting ∈ wA := tA 1144 (by decide +kernel) rfl
set_option maxRecDepth 100000 in
theorem mk_X8_274 : Cond.methodLink RX8 274 yX8_bits ∈ wA := tA 1148 (by decide +kernel) rfl
set_option maxRecDepth 100000 in
theorem mk_X8_277 : Cond.methodLink RX8 277 yX8_greatestPart ∈ wA := tA 1155 (by decide +kernel) rfl
set_option maxRecDepth 100000 in
theorem mk_X8_280 : Cond.methodLink RX8 280 yX8_tellsBy ∈ wA := tA 1167 (by decide +kernel) rfl
set_option maxRecDepth 100000 in
theorem mk_X8_283 : Cond.methodLink RX8 283 yX8_isTold ∈ wA := tA 1163 (by decide +kernel) rfl
set_option maxRecDepth 100000 in
theorem mk_X8_289 : Cond.methodLink RX8 289 yX8_foulBy ∈ wA := tA 1180 (by decide +kernel) rfl
set_option maxRecDepth 100000 in
theorem mk_X8_294 : Cond.methodLink RX8 294 yX8_isHere ∈ wA := tA 1189 (by decide +kernel) rfl
set_option maxRecDepth 100000 in
theorem mk_X8_297 : Cond.methodLink RX8 297 yX8_cleanWays ∈ wA := tA 1193 (by decide +kernel) rfl
set_option maxRecDepth 100000 in
theorem mk_X8_310 : Cond.methodLink RX8 310 yX8_sumOf ∈ wA := tA 1231 (by decide +kernel) rfl
set_option maxRecDepth 100000 in
theorem mk_X8_313 : Cond.methodLink RX8 313 yX8_thereOf ∈ wA := tA 1235 (by decide +kernel) rfl
set_option maxRecDepth 100000 in
theorem mk_X8_318 : Cond.methodLink RX8 318 yX8_countOf ∈ wA := tA 1227 (by decide +kernel) rfl
set_option maxRecDepth 100000 in
theorem ck_X7_293 : Cond.constant RX7 293 (2147483646) ∈ wA := tA 684 (by decide +kernel) rfl
set_option maxRecDepth 100000 in
theorem ck_X0_165 : Cond.constant RX0 165 (2147483647) ∈ wA := tA 614 (by decide +kernel) rfl
set_option maxRecDepth 100000 in
theorem ck_J6_265 : Cond.constant RJ6 265 (1431655765) ∈ wA := tA 562 (by decide +kernel) rfl
set_option maxRecDepth 100000 in
theorem ck_J6_266 : Cond.constant RJ6 266 (858993459) ∈ wA := tA 563 (by decide +kernel) rfl
set_option maxRecDepth 100000 in
theorem ck_J6_267 : Cond.constant RJ6 267 (252645135) ∈ wA := tA 564 (by decide +kernel) rfl
set_option maxRecDepth 100000 in
theorem ck_X7_288 : Cond.constantLong RX7 288 (12) ∈ wA := tA 674 (by decide +kernel) rfl
set_option maxRecDepth 100000 in
theorem ck_X7_297 : Cond.constantLong RX7 297 (48271) ∈ wA := tA 689 (by decide +kernel) rfl
set_option maxRecDepth 100000 in
theorem ck_X7_299 : Cond.constantLong RX7 299 (2147483647) ∈ wA := tA 690 (by decide +kernel) rfl
set_option maxRecDepth 100000 in
theorem ck_X7_301 : Cond.constantLong RX7 301 (8) ∈ wA := tA 691 (by decide +kernel) rfl
set_option maxRecDepth 100000 in
theorem ck_X7_303 : Cond.constantLong RX7 303 (3) ∈ wA := tA 692 (by decide +kernel) rfl
set_option maxRecDepth 100000 in
theorem ck_X7_330 : Cond.constantLong RX7 330 (17) ∈ wA := tA 742 (by decide +kernel) rfl
set_option maxRecDepth 100000 in
theorem ck_X7_332 : Cond.constantLong RX7 332 (31) ∈ wA := tA 743 (by decide +kernel) rfl
set_option maxRecDepth 100000 in
theorem ck_X6_19 : Cond.constantLong RX6 19 (31) ∈ wA := tA 749 (by decide +kernel) rfl
set_option maxRecDepth 100000 in
theorem ck_X8_72 : Cond.constantLong RX8 72 (5) ∈ wA := tA 858 (by decide +kernel) rfl
set_option maxRecDepth 100000 in
theorem ck_X8_78 : Cond.constantLong RX8 78 (3) ∈ wA := tA 909 (by decide +kernel) rfl
set_option maxRecDepth 100000 in
theorem ck_X8_194 : Cond.constantLong RX8 194 (8) ∈ wA := tA 961 (by decide +kernel) rfl
set_option maxRecDepth 100000 in
theorem ck_X8_208 : Cond.constantLong RX8 208 (-5) ∈ wA := tA 1023 (by decide +kernel) rfl
set_option maxRecDepth 100000 in
theorem ck_X8_232 : Cond.constantLong RX8 232 (2) ∈ wA := tA 1066 (by decide +kernel) rfl
set_option maxRecDepth 100000 in
theorem ck_X8_237 : Cond.constantLong RX8 237 (30) ∈ wA := tA 1083 (by decide +kernel) rfl
set_option maxRecDepth 100000 in
theorem ck_X8_287 : Cond.constantLong RX8 287 (6) ∈ wA := tA 1179 (by decide +kernel) rfl
set_option maxRecDepth 100000 in
theorem ck_X8_292 : Cond.constantLong RX8 292 (12) ∈ wA := tA 1188 (by decide +kernel) rfl
set_option maxRecDepth 100000 in
theorem ck_X8_300 : Cond.constantLong RX8 300 (20) ∈ wA := tA 1205 (by decide +kernel) rfl
set_option maxRecDepth 100000 in
theorem ck_X8_302 : Cond.constantLong RX8 302 (2147483646) ∈ wA := tA 1206 (by decide +kernel) rfl
set_option maxRecDepth 100000 in
theorem ck_X8_304 : Cond.constantLong RX8 304 (48271) ∈ wA := tA 1207 (by decide +kernel) rfl
set_option maxRecDepth 100000 in
theorem ck_X8_306 : Cond.constantLong RX8 306 (2147483647) ∈ wA := tA 1208 (by decide +kernel) rfl
set_option maxRecDepth 100000 in
theorem ck_X8_308 : Cond.constantLong RX8 308 (11) ∈ wA := tA 1209 (by decide +kernel) rfl
set_option maxRecDepth 100000 in
theorem ck_X8_316 : Cond.constantLong RX8 316 (10) ∈ wA := tA 1226 (by decide +kernel) rfl
set_option maxRecDepth 100000 in
theorem ck_X8_321 : Cond.constantLong RX8 321 (17) ∈ wA := tA 1251 (by decide +kernel) rfl
set_option maxRecDepth 100000 in
theorem ck_X8_323 : Cond.constantLong RX8 323 (31) ∈ wA := tA 1252 (by decide +kernel) rfl
set_option maxRecDepth 100000 in
theorem kc_X0_init : Cond.code yX0_init cX0_init 2 none ∈ wA := tA 49 (by decide +kernel) rfl
set_option maxRecDepth 100000 in
theorem ki_X0_init : Cond.instanceMethod yX0_init ∈ wA ∧ Cond.initialized RX0 ∈ wA := ⟨tA 48 (by decide +kernel) rfl, tA 3 (by decide +kernel) rfl⟩
set_option maxRecDepth 100000 in
theorem kc_X0_assemble : Cond.code yX0_assemble cX0_assemble 5 none ∈ wA := tA 343 (by decide +kernel) rfl
set_option maxRecDepth 100000 in
theorem ki_X0_assemble : Cond.instanceMethod yX0_assemble ∈ wA ∧ Cond.selects RX0 yX0_assemble yX0_assemble ∈ wA ∧ Cond.initialized RX0 ∈ wA := ⟨tA 341 (by decide +kernel) rfl, tA 342 (by decide +kernel) rfl, tA 3 (by decide +kernel) rfl⟩
set_option maxRecDepth 100000 in
theorem kc_X0_detail : Cond.code yX0_detail cX0_detail 3 (some .int) ∈ wA := tA 420 (by decide +kernel) rfl
set_option maxRecDepth 100000 in
theorem ki_X0_detail : Cond.instanceMethod yX0_detail ∈ wA ∧ Cond.selects RX0 yX0_detail yX0_detail ∈ wA ∧ Cond.initialized RX0 ∈ wA := ⟨tA 418 (by decide +kernel) rfl, tA 419 (by decide +kernel) rfl, tA 3 (by decide +kernel) rfl⟩
set_option maxRecDepth 100000 in
theorem kc_X0_perform : Cond.code yX0_perform cX0_perform 3 none ∈ wA := tA 456 (by decide +kernel) rfl
set_option maxRecDepth 100000 in
theorem ki_X0_perform : Cond.instanceMethod yX0_perform ∈ wA ∧ Cond.selects RX0 yX0_perform yX0_perform ∈ wA ∧ Cond.initialized RX0 ∈ wA := ⟨tA 454 (by decide +kernel) rfl, tA 455 (by decide +kernel) rfl, tA 3 (by decide +kernel) rfl⟩
set_option maxRecDepth 100000 in
theorem kc_X0_actAgain : Cond.code yX0_actAgain cX0_actAgain 2 none ∈ wA := tA 351 (by decide +kernel) rfl
set_option maxRecDepth 100000 in
theorem ki_X0_actAgain : Cond.instanceMethod yX0_actAgain ∈ wA ∧ Cond.selects RX0 yX0_actAgain yX0_actAgain ∈ wA ∧ Cond.initialized RX0 ∈ wA := ⟨tA 349 (by decide +kernel) rfl, tA 350 (by decide +kernel) rfl, tA 3 (by decide +kernel) rfl⟩
set_option maxRecDepth 100000 in
theorem kc_X0_act : Cond.code yX0_act cX0_act 4 none ∈ wA := tA 359 (by decide +kernel) rfl
set_option maxRecDepth 100000 in
theorem ki_X0_act : Cond.instanceMethod yX0_act ∈ wA ∧ Cond.selects RX0 yX0_act yX0_act ∈ wA ∧ Cond.initialized RX0 ∈ wA := ⟨tA 358 (by decide +kernel) rfl, tAp 9 (by decide +kernel), tA 3 (by decide +kernel) rfl⟩
set_option maxRecDepth 100000 in
theorem kc_X0_heatBehind : Cond.code yX0_heatBehind cX0_heatBehind 4 (some .int) ∈ wA := tA 408 (by decide +kernel) rfl
set_option maxRecDepth 100000 in
theorem ki_X0_heatBehind : Cond.instanceMethod yX0_heatBehind ∈ wA ∧ Cond.selects RX0 yX0_heatBehind yX0_heatBehind ∈ wA ∧ Cond.initialized RX0 ∈ wA := ⟨tA 406 (by decide +kernel) rfl, tA 407 (by decide +kernel) rfl, tA 3 (by decide +kernel) rfl⟩
set_option maxRecDepth 100000 in
theorem kc_X0_keptHeat : Cond.code yX0_keptHeat cX0_keptHeat 1 (some .int) ∈ wA := tA 362 (by decide +kernel) rfl
set_option maxRecDepth 100000 in
theorem ki_X0_keptHeat : Cond.static yX0_keptHeat ∈ wA ∧ Cond.initialized RX0 ∈ wA := ⟨tA 361 (by decide +kernel) rfl, tA 3 (by decide +kernel) rfl⟩
set_option maxRecDepth 100000 in
theorem kc_X0_felt : Cond.code yX0_felt cX0_felt 4 (some .int) ∈ wA := tA 392 (by decide +kernel) rfl
set_option maxRecDepth 100000 in
theorem ki_X0_felt : Cond.instanceMethod yX0_felt ∈ wA ∧ Cond.selects RX0 yX0_felt yX0_felt ∈ wA ∧ Cond.initialized RX0 ∈ wA := ⟨tA 390 (by decide +kernel) rfl, tA 391 (by decide +kernel) rfl, tA 3 (by decide +kernel) rfl⟩
set_option maxRecDepth 100000 in
theorem kc_X0_burn : Cond.code yX0_burn cX0_burn 3 (some .int) ∈ wA := tA 388 (by decide +kernel) rfl
set_option maxRecDepth 100000 in
theorem ki_X0_burn : Cond.instanceMethod yX0_burn ∈ wA ∧ Cond.selects RX0 yX0_burn yX0_burn ∈ wA ∧ Cond.initialized RX0 ∈ wA := ⟨tA 386 (by decide +kernel) rfl, tA 387 (by decide +kernel) rfl, tA 3 (by decide +kernel) rfl⟩
set_option maxRecDepth 100000 in
theorem kc_X0_lacking : Cond.code yX0_lacking cX0_lacking 3 (some .int) ∈ wA := tA 384 (by decide +kernel) rfl
set_option maxRecDepth 100000 in
theorem ki_X0_lacking : Cond.instanceMethod yX0_lacking ∈ wA ∧ Cond.selects RX0 yX0_lacking yX0_lacking ∈ wA ∧ Cond.initialized RX0 ∈ wA := ⟨tA 382 (by decide +kernel) rfl, tA 383 (by decide +kernel) rfl, tA 3 (by decide +kernel) rfl⟩
set_option maxRecDepth 100000 in
theorem kc_X0_verdict : Cond.code yX0_verdict cX0_verdict 3 (some .int) ∈ wA := tA 372 (by decide +kernel) rfl
set_option maxRecDepth 100000 in
theorem ki_X0_verdict : Cond.instanceMethod yX0_verdict ∈ wA ∧ Cond.selects RX0 yX0_verdict yX0_verdict ∈ wA ∧ Cond.initialized RX0 ∈ wA := ⟨tA 370 (by decide +kernel) rfl, tA 371 (by decide +kernel) rfl, tA 3 (by decide +kernel) rfl⟩
set_option maxRecDepth 100000 in
theorem kc_X0_heatToSpare : Cond.code yX0_heatToSpare cX0_heatToSpare 3 (some .int) ∈ wA := tA 429 (by decide +kernel) rfl
set_option maxRecDepth 100000 in
theorem ki_X0_heatToSpare : Cond.instanceMethod yX0_heatToSpare ∈ wA ∧ Cond.selects RX0 yX0_heatToSpare yX0_heatToSpare ∈ wA ∧ Cond.initialized RX0 ∈ wA := ⟨tA 427 (by decide +kernel) rfl, tA 428 (by decide +kernel) rfl, tA 3 (by decide +kernel) rfl⟩
set_option maxRecDepth 100000 in
theorem kc_X0_mustBeCleared : Cond.code yX0_mustBeCleared cX0_mustBeCleared 2 (some .boolean) ∈ wA := tA 594 (by decide +kernel) rfl
set_option maxRecDepth 100000 in
theorem ki_X0_mustBeCleared : Cond.instanceMethod yX0_mustBeCleared ∈ wA ∧ Cond.selects RX0 yX0_mustBeCleared yX0_mustBeCleared ∈ wA ∧ Cond.initialized RX0 ∈ wA := ⟨tA 592 (by decide +kernel) rfl, tA 593 (by decide +kernel) rfl, tA 3 (by decide +kernel) rfl⟩
set_option maxRecDepth 100000 in
theorem kc_X0_salveNeeded : Cond.code yX0_salveNeeded cX0_salveNeeded 2 (some .int) ∈ wA := tA 598 (by decide +kernel) rfl
set_option maxRecDepth 100000 in
theorem ki_X0_salveNeeded : Cond.instanceMethod yX0_salveNeeded ∈ wA ∧ Cond.selects RX0 yX0_salveNeeded yX0_salveNeeded ∈ wA ∧ Cond.initialized RX0 ∈ wA := ⟨tA 596 (by decide +kernel) rfl, tA 597 (by decide +kernel) rfl, tA 3 (by decide +kernel) rfl⟩
set_option maxRecDepth 100000 in
theorem kc_X0_cleanChances : Cond.code yX0_cleanChances cX0_cleanChances 4 (some .int) ∈ wA := tA 673 (by decide +kernel) rfl
set_option maxRecDepth 100000 in
theorem ki_X0_cleanChances : Cond.instanceMethod yX0_cleanChances ∈ wA ∧ Cond.selects RX0 yX0_cleanChances yX0_cleanChances ∈ wA ∧ Cond.initialized RX0 ∈ wA := ⟨tA 671 (by decide +kernel) rfl, tA 672 (by decide +kernel) rfl, tA 3 (by decide +kernel) rfl⟩
set_option maxRecDepth 100000 in
theorem kc_X0_likeOf : Cond.code yX0_likeOf cX0_likeOf 2 (some (.object "ThirdDay$Man")) ∈ wA := tA 437 (by decide +kernel) rfl
set_option maxRecDepth 100000 in
theorem ki_X0_likeOf : Cond.instanceMethod yX0_likeOf ∈ wA ∧ Cond.selects RX0 yX0_likeOf yX0_likeOf ∈ wA ∧ Cond.initialized RX0 ∈ wA := ⟨tA 435 (by decide +kernel) rfl, tA 436 (by decide +kernel) rfl, tA 3 (by decide +kernel) rfl⟩
set_option maxRecDepth 100000 in
theorem kc_X0_likeButPlain : Cond.code yX0_likeButPlain cX0_likeButPlain 3 (some (.object "ThirdDay$Man")) ∈ wA := tA 433 (by decide +kernel) rfl
set_option maxRecDepth 100000 in
theorem ki_X0_likeButPlain : Cond.instanceMethod yX0_likeButPlain ∈ wA ∧ Cond.selects RX0 yX0_likeButPlain yX0_likeButPlain ∈ wA ∧ Cond.initialized RX0 ∈ wA := ⟨tA 431 (by decide +kernel) rfl, tA 432 (by decide +kernel) rfl, tA 3 (by decide +kernel) rfl⟩
set_option maxRecDepth 100000 in
theorem kc_X0_wouldTell : Cond.code yX0_wouldTell cX0_wouldTell 4 (some .boolean) ∈ wA := tA 638 (by decide +kernel) rfl
set_option maxRecDepth 100000 in
theorem ki_X0_wouldTell : Cond.instanceMethod yX0_wouldTell ∈ wA ∧ Cond.selects RX0 yX0_wouldTell yX0_wouldTell ∈ wA ∧ Cond.initialized RX0 ∈ wA := ⟨tA 636 (by decide +kernel) rfl, tA 637 (by decide +kernel) rfl, tA 3 (by decide +kernel) rfl⟩
set_option maxRecDepth 100000 in
theorem kc_X0_guiltyWrongly : Cond.code yX0_guiltyWrongly cX0_guiltyWrongly 4 (some .int) ∈ wA := tA 510 (by decide +kernel) rfl
set_option maxRecDepth 100000 in
theorem ki_X0_guiltyWrongly : Cond.instanceMethod yX0_guiltyWrongly ∈ wA ∧ Cond.selects RX0 yX0_guiltyWrongly yX0_guiltyWrongly ∈ wA ∧ Cond.initialized RX0 ∈ wA := ⟨tA 508 (by decide +kernel) rfl, tA 509 (by decide +kernel) rfl, tA 3 (by decide +kernel) rfl⟩
set_option maxRecDepth 100000 in
theorem kc_X0_allWrongly : Cond.code yX0_allWrongly cX0_allWrongly 4 (some .int) ∈ wA := tA 519 (by decide +kernel) rfl
set_option maxRecDepth 100000 in
theorem ki_X0_allWrongly : Cond.instanceMethod yX0_allWrongly ∈ wA ∧ Cond.selects RX0 yX0_allWrongly yX0_allWrongly ∈ wA ∧ Cond.initialized RX0 ∈ wA := ⟨tA 517 (by decide +kernel) rfl, tA 518 (by decide +kernel) rfl, tA 3 (by decide +kernel) rfl⟩
set_option maxRecDepth 100000 in
theorem kc_X0_wouldWrong : Cond.code yX0_wouldWrong cX0_wouldWrong 3 (some .boolean) ∈ wA := tA 514 (by decide +kernel) rfl
set_option maxRecDepth 100000 in
theorem ki_X0_wouldWrong : Cond.instanceMethod yX0_wouldWrong ∈ wA ∧ Cond.selects RX0 yX0_wouldWrong yX0_wouldWrong ∈ wA ∧ Cond.initialized RX0 ∈ wA := ⟨tA 513 (by decide +kernel) rfl, tAp 12 (by decide +kernel), tA 3 (by decide +kernel) rfl⟩
set_option maxRecDepth 100000 in
theorem kc_X0_foulOnes : Cond.code yX0_foulOnes cX0_foulOnes 4 (some .int) ∈ wA := tA 654 (by decide +kernel) rfl
set_option maxRecDepth 100000 in
theorem ki_X0_foulOnes : Cond.instanceMethod yX0_foulOnes ∈ wA ∧ Cond.selects RX0 yX0_foulOnes yX0_foulOnes ∈ wA ∧ Cond.initialized RX0 ∈ wA := ⟨tA 652 (by decide +kernel) rfl, tA 653 (by decide +kernel) rfl, tA 3 (by decide +kernel) rfl⟩
set_option maxRecDepth 100000 in
theorem kc_X0_heatsTelling : Cond.code yX0_heatsTelling cX0_heatsTelling 5 (some .int) ∈ wA := tA 531 (by decide +kernel) rfl
set_option maxRecDepth 100000 in
theorem ki_X0_heatsTelling : Cond.instanceMethod yX0_heatsTelling ∈ wA ∧ Cond.selects RX0 yX0_heatsTelling yX0_heatsTelling ∈ wA ∧ Cond.initialized RX0 ∈ wA := ⟨tA 529 (by decide +kernel) rfl, tA 530 (by decide +kernel) rfl, tA 3 (by decide +kernel) rfl⟩
set_option maxRecDepth 100000 in
theorem kc_X0_heatsFitting : Cond.code yX0_heatsFitting cX0_heatsFitting 4 (some .int) ∈ wA := tA 613 (by decide +kernel) rfl
set_option maxRecDepth 100000 in
theorem ki_X0_heatsFitting : Cond.instanceMethod yX0_heatsFitting ∈ wA ∧ Cond.selects RX0 yX0_heatsFitting yX0_heatsFitting ∈ wA ∧ Cond.initialized RX0 ∈ wA := ⟨tA 611 (by decide +kernel) rfl, tA 612 (by decide +kernel) rfl, tA 3 (by decide +kernel) rfl⟩
set_option maxRecDepth 100000 in
theorem kc_X0_greatestPart : Cond.code yX0_greatestPart cX0_greatestPart 5 (some .int) ∈ wA := tA 624 (by decide +kernel) rfl
set_option maxRecDepth 100000 in
theorem ki_X0_greatestPart : Cond.instanceMethod yX0_greatestPart ∈ wA ∧ Cond.selects RX0 yX0_greatestPart yX0_greatestPart ∈ wA ∧ Cond.initialized RX0 ∈ wA := ⟨tA 622 (by decide +kernel) rfl, tA 623 (by decide +kernel) rfl, tA 3 (by decide +kernel) rfl⟩
set_option maxRecDepth 100000 in
theorem kc_X0_absent : Cond.code yX0_absent cX0_absent 3 (some .int) ∈ wA := tA 443 (by decide +kernel) rfl
set_option maxRecDepth 100000 in
theorem ki_X0_absent : Cond.instanceMethod yX0_absent ∈ wA ∧ Cond.selects RX0 yX0_absent yX0_absent ∈ wA ∧ Cond.initialized RX0 ∈ wA := ⟨tA 441 (by decide +kernel) rfl, tA 442 (by decide +kernel) rfl, tA 3 (by decide +kernel) rfl⟩
set_option maxRecDepth 100000 in
theorem kc_X0_triedOnes : Cond.code yX0_triedOnes cX0_triedOnes 3 (some .int) ∈ wA := tA 558 (by decide +kernel) rfl
set_option maxRecDepth 100000 in
theorem ki_X0_triedOnes : Cond.instanceMethod yX0_triedOnes ∈ wA ∧ Cond.selects RX0 yX0_triedOnes yX0_triedOnes ∈ wA ∧ Cond.initialized RX0 ∈ wA := ⟨tA 556 (by decide +kernel) rfl, tA 557 (by decide +kernel) rfl, tA 3 (by decide +kernel) rfl⟩
set_option maxRecDepth 100000 in
theorem kc_X0_toldClean : Cond.code yX0_toldClean cX0_toldClean 3 (some .int) ∈ wA := tA 404 (by decide +kernel) rfl
set_option maxRecDepth 100000 in
theorem ki_X0_toldClean : Cond.instanceMethod yX0_toldClean ∈ wA ∧ Cond.selects RX0 yX0_toldClean yX0_toldClean ∈ wA ∧ Cond.initialized RX0 ∈ wA := ⟨tA 402 (by decide +kernel) rfl, tA 403 (by decide +kernel) rfl, tA 3 (by decide +kernel) rfl⟩
set_option maxRecDepth 100000 in
theorem kc_X0_toldWrongly : Cond.code yX0_toldWrongly cX0_toldWrongly 3 (some .int) ∈ wA := tA 688 (by decide +kernel) rfl
set_option maxRecDepth 100000 in
theorem ki_X0_toldWrongly : Cond.instanceMethod yX0_toldWrongly ∈ wA ∧ Cond.selects RX0 yX0_toldWrongly yX0_toldWrongly ∈ wA ∧ Cond.initialized RX0 ∈ wA := ⟨tA 686 (by decide +kernel) rfl, tA 687 (by decide +kernel) rfl, tA 3 (by decide +kernel) rfl⟩
set_option maxRecDepth 100000 in
theorem kc_X0_allSalve : Cond.code yX0_allSalve cX0_allSalve 3 (some .int) ∈ wA := tA 717 (by decide +kernel) rfl
set_option maxRecDepth 100000 in
theorem ki_X0_allSalve : Cond.instanceMethod yX0_allSalve ∈ wA ∧ Cond.selects RX0 yX0_allSalve yX0_allSalve ∈ wA ∧ Cond.initialized RX0 ∈ wA := ⟨tA 715 (by decide +kernel) rfl, tA 716 (by decide +kernel) rfl, tA 3 (by decide +kernel) rfl⟩
set_option maxRecDepth 100000 in
theorem kc_X0_ploughmen : Cond.code yX0_ploughmen cX0_ploughmen 3 (some .int) ∈ wA := tA 721 (by decide +kernel) rfl
set_option maxRecDepth 100000 in
theorem ki_X0_ploughmen : Cond.instanceMethod yX0_ploughmen ∈ wA ∧ Cond.selects RX0 yX0_ploughmen yX0_ploughmen ∈ wA ∧ Cond.initialized RX0 ∈ wA := ⟨tA 719 (by decide +kernel) rfl, tA 720 (by decide +kernel) rfl, tA 3 (by decide +kernel) rfl⟩
set_option maxRecDepth 100000 in
theorem kc_X1_init : Cond.code yX1_init cX1_init 2 none ∈ wA := tA 97 (by decide +kernel) rfl
set_option maxRecDepth 100000 in
theorem ki_X1_init : Cond.instanceMethod yX1_init ∈ wA ∧ Cond.initialized RX1 ∈ wA := ⟨tA 96 (by decide +kernel) rfl, tA 5 (by decide +kernel) rfl⟩
set_option maxRecDepth 100000 in
theorem kc_X1_hasRoomFor : Cond.code yX1_hasRoomFor cX1_hasRoomFor 2 (some .boolean) ∈ wA := tA 452 (by decide +kernel) rfl
set_option maxRecDepth 100000 in
theorem ki_X1_hasRoomFor : Cond.instanceMethod yX1_hasRoomFor ∈ wA ∧ Cond.selects RX1 yX1_hasRoomFor yX1_hasRoomFor ∈ wA ∧ Cond.initialized RX1 ∈ wA := ⟨tA 450 (by decide +kernel) rfl, tA 451 (by decide +kernel) rfl, tA 5 (by decide +kernel) rfl⟩
set_option maxRecDepth 100000 in
theorem kc_X1_add : Cond.code yX1_add cX1_add 3 none ∈ wA := tA 460 (by decide +kernel) rfl
set_option maxRecDepth 100000 in
theorem ki_X1_add : Cond.instanceMethod yX1_add ∈ wA ∧ Cond.selects RX1 yX1_add yX1_add ∈ wA ∧ Cond.initialized RX1 ∈ wA := ⟨tA 458 (by decide +kernel) rfl, tA 459 (by decide +kernel) rfl, tA 5 (by decide +kernel) rfl⟩
set_option maxRecDepth 100000 in
theorem kc_X1_become : Cond.code yX1_become cX1_become 3 none ∈ wA := tA 489 (by decide +kernel) rfl
set_option maxRecDepth 100000 in
theorem ki_X1_become : Cond.instanceMethod yX1_become ∈ wA ∧ Cond.selects RX1 yX1_become yX1_become ∈ wA ∧ Cond.initialized RX1 ∈ wA := ⟨tA 487 (by decide +kernel) rfl, tA 488 (by decide +kernel) rfl, tA 5 (by decide +kernel) rfl⟩
set_option maxRecDepth 100000 in
theorem kc_X2_init : Cond.code yX2_init cX2_init 1 none ∈ wA := tA 168 (by decide +kernel) rfl
set_option maxRecDepth 100000 in
theorem ki_X2_init : Cond.instanceMethod yX2_init ∈ wA ∧ Cond.initialized RX2 ∈ wA := ⟨tA 167 (by decide +kernel) rfl, tA 7 (by decide +kernel) rfl⟩
set_option maxRecDepth 100000 in
theorem kc_X2_foulAtLast : Cond.code yX2_foulAtLast cX2_foulAtLast 5 (some .int) ∈ wA := tA 650 (by decide +kernel) rfl
set_option maxRecDepth 100000 in
theorem ki_X2_foulAtLast : Cond.instanceMethod yX2_foulAtLast ∈ wA ∧ Cond.selects RX2 yX2_foulAtLast yX2_foulAtLast ∈ wA ∧ Cond.initialized RX2 ∈ wA := ⟨tA 648 (by decide +kernel) rfl, tA 649 (by decide +kernel) rfl, tA 7 (by decide +kernel) rfl⟩
set_option maxRecDepth 100000 in
theorem kc_X2_chosen : Cond.code yX2_chosen cX2_chosen 6 (some .int) ∈ wA := tA 658 (by decide +kernel) rfl
set_option maxRecDepth 100000 in
theorem ki_X2_chosen : Cond.instanceMethod yX2_chosen ∈ wA ∧ Cond.selects RX2 yX2_chosen yX2_chosen ∈ wA ∧ Cond.initialized RX2 ∈ wA := ⟨tA 657 (by decide +kernel) rfl, tAp 19 (by decide +kernel), tA 7 (by decide +kernel) rfl⟩
set_option maxRecDepth 100000 in
theorem kc_X3_init : Cond.code yX3_init cX3_init 1 none ∈ wA := tA 56 (by decide +kernel) rfl
set_option maxRecDepth 100000 in
theorem ki_X3_init : Cond.instanceMethod yX3_init ∈ wA ∧ Cond.initialized RX3 ∈ wA := ⟨tA 55 (by decide +kernel) rfl, tA 4 (by decide +kernel) rfl⟩
set_option maxRecDepth 100000 in
theorem kc_X3_become : Cond.code yX3_become cX3_become 5 none ∈ wA := tA 347 (by decide +kernel) rfl
set_option maxRecDepth 100000 in
theorem ki_X3_become : Cond.instanceMethod yX3_become ∈ wA ∧ Cond.selects RX3 yX3_become yX3_become ∈ wA ∧ Cond.initialized RX3 ∈ wA := ⟨tA 345 (by decide +kernel) rfl, tA 346 (by decide +kernel) rfl, tA 4 (by decide +kernel) rfl⟩
set_option maxRecDepth 100000 in
theorem kc_X3_forgetDeeds : Cond.code yX3_forgetDeeds cX3_forgetDeeds 1 none ∈ wA := tA 355 (by decide +kernel) rfl
set_option maxRecDepth 100000 in
theorem ki_X3_forgetDeeds : Cond.instanceMethod yX3_forgetDeeds ∈ wA ∧ Cond.selects RX3 yX3_forgetDeeds yX3_forgetDeeds ∈ wA ∧ Cond.initialized RX3 ∈ wA := ⟨tA 353 (by decide +kernel) rfl, tA 354 (by decide +kernel) rfl, tA 4 (by decide +kernel) rfl⟩
set_option maxRecDepth 100000 in
theorem kc_X3_isTried : Cond.code yX3_isTried cX3_isTried 1 (some .boolean) ∈ wA := tA 469 (by decide +kernel) rfl
set_option maxRecDepth 100000 in
theorem ki_X3_isTried : Cond.instanceMethod yX3_isTried ∈ wA ∧ Cond.selects RX3 yX3_isTried yX3_isTried ∈ wA ∧ Cond.initialized RX3 ∈ wA := ⟨tA 467 (by decide +kernel) rfl, tA 468 (by decide +kernel) rfl, tA 4 (by decide +kernel) rfl⟩
set_option maxRecDepth 100000 in
theorem kc_X3_isOf : Cond.code yX3_isOf cX3_isOf 2 (some .boolean) ∈ wA := tA 380 (by decide +kernel) rfl
set_option maxRecDepth 100000 in
theorem ki_X3_isOf : Cond.instanceMethod yX3_isOf ∈ wA ∧ Cond.selects RX3 yX3_isOf yX3_isOf ∈ wA ∧ Cond.initialized RX3 ∈ wA := ⟨tA 378 (by decide +kernel) rfl, tA 379 (by decide +kernel) rfl, tA 4 (by decide +kernel) rfl⟩
set_option maxRecDepth 100000 in
theorem kc_X3_hardness : Cond.code yX3_hardness cX3_hardness 1 (some .int) ∈ wA := tA 396 (by decide +kernel) rfl
set_option maxRecDepth 100000 in
theorem ki_X3_hardness : Cond.instanceMethod yX3_hardness ∈ wA ∧ Cond.selects RX3 yX3_hardness yX3_hardness ∈ wA ∧ Cond.initialized RX3 ∈ wA := ⟨tA 394 (by decide +kernel) rfl, tA 395 (by decide +kernel) rfl, tA 4 (by decide +kernel) rfl⟩
set_option maxRecDepth 100000 in
theorem kc_X3_appears : Cond.code yX3_appears cX3_appears 2 (some .boolean) ∈ wA := tA 376 (by decide +kernel) rfl
set_option maxRecDepth 100000 in
theorem ki_X3_appears : Cond.instanceMethod yX3_appears ∈ wA ∧ Cond.selects RX3 yX3_appears yX3_appears ∈ wA ∧ Cond.initialized RX3 ∈ wA := ⟨tA 374 (by decide +kernel) rfl, tA 375 (by decide +kernel) rfl, tA 4 (by decide +kernel) rfl⟩
set_option maxRecDepth 100000 in
theorem kc_X3_wrongedBy : Cond.code yX3_wrongedBy cX3_wrongedBy 2 (some .boolean) ∈ wA := tA 400 (by decide +kernel) rfl
set_option maxRecDepth 100000 in
theorem ki_X3_wrongedBy : Cond.instanceMethod yX3_wrongedBy ∈ wA ∧ Cond.selects RX3 yX3_wrongedBy yX3_wrongedBy ∈ wA ∧ Cond.initialized RX3 ∈ wA := ⟨tA 398 (by decide +kernel) rfl, tA 399 (by decide +kernel) rfl, tA 4 (by decide +kernel) rfl⟩
set_option maxRecDepth 100000 in
theorem kc_X3_dueByLot : Cond.code yX3_dueByLot cX3_dueByLot 1 (some .int) ∈ wA := tA 696 (by decide +kernel) rfl
set_option maxRecDepth 100000 in
theorem ki_X3_dueByLot : Cond.instanceMethod yX3_dueByLot ∈ wA ∧ Cond.selects RX3 yX3_dueByLot yX3_dueByLot ∈ wA ∧ Cond.initialized RX3 ∈ wA := ⟨tA 694 (by decide +kernel) rfl, tA 695 (by decide +kernel) rfl, tA 4 (by decide +kernel) rfl⟩
set_option maxRecDepth 100000 in
theorem kc_X4_init : Cond.code yX4_init cX4_init 1 none ∈ wA := tA 155 (by decide +kernel) rfl
set_option maxRecDepth 100000 in
theorem ki_X4_init : Cond.instanceMethod yX4_init ∈ wA ∧ Cond.initialized RX4 ∈ wA := ⟨tA 154 (by decide +kernel) rfl, tA 6 (by decide +kernel) rfl⟩
set_option maxRecDepth 100000 in
theorem kc_X4_layBest : Cond.code yX4_layBest cX4_layBest 5 (some .int) ∈ wA := tA 554 (by decide +kernel) rfl
set_option maxRecDepth 100000 in
theorem ki_X4_layBest : Cond.instanceMethod yX4_layBest ∈ wA ∧ Cond.selects RX4 yX4_layBest yX4_layBest ∈ wA ∧ Cond.initialized RX4 ∈ wA := ⟨tA 552 (by decide +kernel) rfl, tA 553 (by decide +kernel) rfl, tA 6 (by decide +kernel) rfl⟩
set_option maxRecDepth 100000 in
theorem kc_X4_goOn : Cond.code yX4_goOn cX4_goOn 13 none ∈ wA := tA 570 (by decide +kernel) rfl
set_option maxRecDepth 100000 in
theorem ki_X4_goOn : Cond.instanceMethod yX4_goOn ∈ wA ∧ Cond.selects RX4 yX4_goOn yX4_goOn ∈ wA ∧ Cond.initialized RX4 ∈ wA := ⟨tA 569 (by decide +kernel) rfl, tAp 15 (by decide +kernel), tA 6 (by decide +kernel) rfl⟩
set_option maxRecDepth 100000 in
theorem kc_X5_init : Cond.code yX5_init cX5_init 1 none ∈ wA := tA 27 (by decide +kernel) rfl
set_option maxRecDepth 100000 in
theorem ki_X5_init : Cond.instanceMethod yX5_init ∈ wA ∧ Cond.initialized RX5 ∈ wA := ⟨tA 26 (by decide +kernel) rfl, tA 2 (by decide +kernel) rfl⟩
set_option maxRecDepth 100000 in
theorem kc_X5_read : Cond.code yX5_read cX5_read 4 (some .int) ∈ wA := tA 312 (by decide +kernel) rfl
set_option maxRecDepth 100000 in
theorem ki_X5_read : Cond.instanceMethod yX5_read ∈ wA ∧ Cond.selects RX5 yX5_read yX5_read ∈ wA ∧ Cond.initialized RX5 ∈ wA := ⟨tA 310 (by decide +kernel) rfl, tA 311 (by decide +kernel) rfl, tA 2 (by decide +kernel) rfl⟩
set_option maxRecDepth 100000 in
theorem kc_X5_takeIron : Cond.code yX5_takeIron cX5_takeIron 2 (some .boolean) ∈ wA := tA 320 (by decide +kernel) rfl
set_option maxRecDepth 100000 in
theorem ki_X5_takeIron : Cond.instanceMethod yX5_takeIron ∈ wA ∧ Cond.selects RX5 yX5_takeIron yX5_takeIron ∈ wA ∧ Cond.initialized RX5 ∈ wA := ⟨tA 319 (by decide +kernel) rfl, tAp 5 (by decide +kernel), tA 2 (by decide +kernel) rfl⟩
set_option maxRecDepth 100000 in
theorem kc_X5_takeMan : Cond.code yX5_takeMan cX5_takeMan 3 (some .boolean) ∈ wA := tA 332 (by decide +kernel) rfl
set_option maxRecDepth 100000 in
theorem ki_X5_takeMan : Cond.instanceMethod yX5_takeMan ∈ wA ∧ Cond.selects RX5 yX5_takeMan yX5_takeMan ∈ wA ∧ Cond.initialized RX5 ∈ wA := ⟨tA 331 (by decide +kernel) rfl, tAp 8 (by decide +kernel), tA 2 (by decide +kernel) rfl⟩
set_option maxRecDepth 100000 in
theorem kc_X5_takeFigure : Cond.code yX5_takeFigure cX5_takeFigure 5 (some .boolean) ∈ wA := tA 324 (by decide +kernel) rfl
set_option maxRecDepth 100000 in
theorem ki_X5_takeFigure : Cond.instanceMethod yX5_takeFigure ∈ wA ∧ Cond.selects RX5 yX5_takeFigure yX5_takeFigure ∈ wA ∧ Cond.initialized RX5 ∈ wA := ⟨tA 323 (by decide +kernel) rfl, tAp 6 (by decide +kernel), tA 2 (by decide +kernel) rfl⟩
set_option maxRecDepth 100000 in
theorem kc_X5_take : Cond.code yX5_take cX5_take 2 none ∈ wA := tA 328 (by decide +kernel) rfl
set_option maxRecDepth 100000 in
theorem ki_X5_take : Cond.instanceMethod yX5_take ∈ wA ∧ Cond.selects RX5 yX5_take yX5_take ∈ wA ∧ Cond.initialized RX5 ∈ wA := ⟨tA 327 (by decide +kernel) rfl, tAp 7 (by decide +kernel), tA 2 (by decide +kernel) rfl⟩
set_option maxRecDepth 100000 in
theorem kc_X5_passBlanks : Cond.code yX5_passBlanks cX5_passBlanks 2 none ∈ wA := tA 316 (by decide +kernel) rfl
set_option maxRecDepth 100000 in
theorem ki_X5_passBlanks : Cond.instanceMethod yX5_passBlanks ∈ wA ∧ Cond.selects RX5 yX5_passBlanks yX5_passBlanks ∈ wA ∧ Cond.initialized RX5 ∈ wA := ⟨tA 315 (by decide +kernel) rfl, tAp 4 (by decide +kernel), tA 2 (by decide +kernel) rfl⟩
set_option maxRecDepth 100000 in
theorem kc_X5_kindOf : Cond.code yX5_kindOf cX5_kindOf 1 (some .int) ∈ wA := tA 335 (by decide +kernel) rfl
set_option maxRecDepth 100000 in
theorem ki_X5_kindOf : Cond.static yX5_kindOf ∈ wA ∧ Cond.initialized RX5 ∈ wA := ⟨tA 334 (by decide +kernel) rfl, tA 2 (by decide +kernel) rfl⟩
set_option maxRecDepth 100000 in
theorem kc_X6_init : Cond.code yX6_init cX6_init 2 none ∈ wA := tA 180 (by decide +kernel) rfl
set_option maxRecDepth 100000 in
theorem ki_X6_init : Cond.instanceMethod yX6_init ∈ wA ∧ Cond.initialized RX6 ∈ wA := ⟨tA 179 (by decide +kernel) rfl, tA 8 (by decide +kernel) rfl⟩
set_option maxRecDepth 100000 in
theorem kc_X6_isMissing : Cond.code yX6_isMissing cX6_isMissing 1 (some .boolean) ∈ wA := tA 269 (by decide +kernel) rfl
set_option maxRecDepth 100000 in
theorem ki_X6_isMissing : Cond.instanceMethod yX6_isMissing ∈ wA ∧ Cond.selects RX6 yX6_isMissing yX6_isMissing ∈ wA ∧ Cond.initialized RX6 ∈ wA := ⟨tA 267 (by decide +kernel) rfl, tA 268 (by decide +kernel) rfl, tA 8 (by decide +kernel) rfl⟩
set_option maxRecDepth 100000 in
theorem kc_X6_layOut : Cond.code yX6_layOut cX6_layOut 4 none ∈ wA := tA 253 (by decide +kernel) rfl
set_option maxRecDepth 100000 in
theorem ki_X6_layOut : Cond.instanceMethod yX6_layOut ∈ wA ∧ Cond.selects RX6 yX6_layOut yX6_layOut ∈ wA ∧ Cond.initialized RX6 ∈ wA := ⟨tA 251 (by decide +kernel) rfl, tA 252 (by decide +kernel) rfl, tA 8 (by decide +kernel) rfl⟩
set_option maxRecDepth 100000 in
theorem kc_X6_hasStretch : Cond.code yX6_hasStretch cX6_hasStretch 3 (some .boolean) ∈ wA := tA 285 (by decide +kernel) rfl
set_option maxRecDepth 100000 in
theorem ki_X6_hasStretch : Cond.instanceMethod yX6_hasStretch ∈ wA ∧ Cond.selects RX6 yX6_hasStretch yX6_hasStretch ∈ wA ∧ Cond.initialized RX6 ∈ wA := ⟨tA 283 (by decide +kernel) rfl, tA 284 (by decide +kernel) rfl, tA 8 (by decide +kernel) rfl⟩
set_option maxRecDepth 100000 in
theorem kc_X6_sum : Cond.code yX6_sum cX6_sum 4 (some .long) ∈ wA := tA 296 (by decide +kernel) rfl
set_option maxRecDepth 100000 in
theorem ki_X6_sum : Cond.instanceMethod yX6_sum ∈ wA ∧ Cond.selects RX6 yX6_sum yX6_sum ∈ wA ∧ Cond.initialized RX6 ∈ wA := ⟨tA 294 (by decide +kernel) rfl, tA 295 (by decide +kernel) rfl, tA 8 (by decide +kernel) rfl⟩
set_option maxRecDepth 100000 in
theorem kc_X6_digestOnto : Cond.code yX6_digestOnto cX6_digestOnto 6 (some .long) ∈ wA := tA 748 (by decide +kernel) rfl
set_option maxRecDepth 100000 in
theorem ki_X6_digestOnto : Cond.instanceMethod yX6_digestOnto ∈ wA ∧ Cond.selects RX6 yX6_digestOnto yX6_digestOnto ∈ wA ∧ Cond.initialized RX6 ∈ wA := ⟨tA 746 (by decide +kernel) rfl, tA 747 (by decide +kernel) rfl, tA 8 (by decide +kernel) rfl⟩
set_option maxRecDepth 100000 in
theorem kc_X7_init : Cond.code yX7_init cX7_init 2 none ∈ wA := tA 17 (by decide +kernel) rfl
set_option maxRecDepth 100000 in
theorem ki_X7_init : Cond.instanceMethod yX7_init ∈ wA ∧ Cond.initialized RX7 ∈ wA := ⟨tA 16 (by decide +kernel) rfl, tA 1 (by decide +kernel) rfl⟩
set_option maxRecDepth 100000 in
theorem kc_X7_row : Cond.code yX7_row cX7_row 3 (some .int) ∈ wA := tA 238 (by decide +kernel) rfl
set_option maxRecDepth 100000 in
theorem ki_X7_row : Cond.instanceMethod yX7_row ∈ wA ∧ Cond.selects RX7 yX7_row yX7_row ∈ wA ∧ Cond.initialized RX7 ∈ wA := ⟨tA 236 (by decide +kernel) rfl, tA 237 (by decide +kernel) rfl, tA 1 (by decide +kernel) rfl⟩
set_option maxRecDepth 100000 in
theorem kc_X7_lay : Cond.code yX7_lay cX7_lay 5 (some .int) ∈ wA := tA 257 (by decide +kernel) rfl
set_option maxRecDepth 100000 in
theorem ki_X7_lay : Cond.instanceMethod yX7_lay ∈ wA ∧ Cond.selects RX7 yX7_lay yX7_lay ∈ wA ∧ Cond.initialized RX7 ∈ wA := ⟨tA 255 (by decide +kernel) rfl, tA 256 (by decide +kernel) rfl, tA 1 (by decide +kernel) rfl⟩
set_option maxRecDepth 100000 in
theorem kc_X7_at : Cond.code yX7_at cX7_at 4 (some .int) ∈ wA := tA 273 (by decide +kernel) rfl
set_option maxRecDepth 100000 in
theorem ki_X7_at : Cond.instanceMethod yX7_at ∈ wA ∧ Cond.selects RX7 yX7_at yX7_at ∈ wA ∧ Cond.initialized RX7 ∈ wA := ⟨tA 271 (by decide +kernel) rfl, tA 272 (by decide +kernel) rfl, tA 1 (by decide +kernel) rfl⟩
set_option maxRecDepth 100000 in
theorem kc_X7_tear : Cond.code yX7_tear cX7_tear 3 (some .int) ∈ wA := tA 277 (by decide +kernel) rfl
set_option maxRecDepth 100000 in
theorem ki_X7_tear : Cond.instanceMethod yX7_tear ∈ wA ∧ Cond.selects RX7 yX7_tear yX7_tear ∈ wA ∧ Cond.initialized RX7 ∈ wA := ⟨tA 275 (by decide +kernel) rfl, tA 276 (by decide +kernel) rfl, tA 1 (by decide +kernel) rfl⟩
set_option maxRecDepth 100000 in
theorem kc_X7_copy : Cond.code yX7_copy cX7_copy 8 (some .int) ∈ wA := tA 281 (by decide +kernel) rfl
set_option maxRecDepth 100000 in
theorem ki_X7_copy : Cond.instanceMethod yX7_copy ∈ wA ∧ Cond.selects RX7 yX7_copy yX7_copy ∈ wA ∧ Cond.initialized RX7 ∈ wA := ⟨tA 279 (by decide +kernel) rfl, tA 280 (by decide +kernel) rfl, tA 1 (by decide +kernel) rfl⟩
set_option maxRecDepth 100000 in
theorem kc_X7_mean : Cond.code yX7_mean cX7_mean 4 (some .int) ∈ wA := tA 292 (by decide +kernel) rfl
set_option maxRecDepth 100000 in
theorem ki_X7_mean : Cond.instanceMethod yX7_mean ∈ wA ∧ Cond.selects RX7 yX7_mean yX7_mean ∈ wA ∧ Cond.initialized RX7 ∈ wA := ⟨tA 290 (by decide +kernel) rfl, tA 291 (by decide +kernel) rfl, tA 1 (by decide +kernel) rfl⟩
set_option maxRecDepth 100000 in
theorem kc_X7_text : Cond.code yX7_text cX7_text 3 (some .int) ∈ wA := tA 300 (by decide +kernel) rfl
set_option maxRecDepth 100000 in
theorem ki_X7_text : Cond.instanceMethod yX7_text ∈ wA ∧ Cond.selects RX7 yX7_text yX7_text ∈ wA ∧ Cond.initialized RX7 ∈ wA := ⟨tA 298 (by decide +kernel) rfl, tA 299 (by decide +kernel) rfl, tA 1 (by decide +kernel) rfl⟩
set_option maxRecDepth 100000 in
theorem kc_X7_put : Cond.code yX7_put cX7_put 6 (some .int) ∈ wA := tA 304 (by decide +kernel) rfl
set_option maxRecDepth 100000 in
theorem ki_X7_put : Cond.instanceMethod yX7_put ∈ wA ∧ Cond.selects RX7 yX7_put yX7_put ∈ wA ∧ Cond.initialized RX7 ∈ wA := ⟨tA 302 (by decide +kernel) rfl, tA 303 (by decide +kernel) rfl, tA 1 (by decide +kernel) rfl⟩
set_option maxRecDepth 100000 in
theorem kc_X7_fault : Cond.code yX7_fault cX7_fault 3 (some .int) ∈ wA := tA 308 (by decide +kernel) rfl
set_option maxRecDepth 100000 in
theorem ki_X7_fault : Cond.instanceMethod yX7_fault ∈ wA ∧ Cond.selects RX7 yX7_fault yX7_fault ∈ wA ∧ Cond.initialized RX7 ∈ wA := ⟨tA 306 (by decide +kernel) rfl, tA 307 (by decide +kernel) rfl, tA 1 (by decide +kernel) rfl⟩
set_option maxRecDepth 100000 in
theorem kc_X7_court : Cond.code yX7_court cX7_court 4 (some .int) ∈ wA := tA 339 (by decide +kernel) rfl
set_option maxRecDepth 100000 in
theorem ki_X7_court : Cond.instanceMethod yX7_court ∈ wA ∧ Cond.selects RX7 yX7_court yX7_court ∈ wA ∧ Cond.initialized RX7 ∈ wA := ⟨tA 337 (by decide +kernel) rfl, tA 338 (by decide +kernel) rfl, tA 1 (by decide +kernel) rfl⟩
set_option maxRecDepth 100000 in
theorem kc_X7_man : Cond.code yX7_man cX7_man 3 (some .int) ∈ wA := tA 412 (by decide +kernel) rfl
set_option maxRecDepth 100000 in
theorem ki_X7_man : Cond.instanceMethod yX7_man ∈ wA ∧ Cond.selects RX7 yX7_man yX7_man ∈ wA ∧ Cond.initialized RX7 ∈ wA := ⟨tA 410 (by decide +kernel) rfl, tA 411 (by decide +kernel) rfl, tA 1 (by decide +kernel) rfl⟩
set_option maxRecDepth 100000 in
theorem kc_X7_mark : Cond.code yX7_mark cX7_mark 4 (some .int) ∈ wA := tA 424 (by decide +kernel) rfl
set_option maxRecDepth 100000 in
theorem ki_X7_mark : Cond.instanceMethod yX7_mark ∈ wA ∧ Cond.selects RX7 yX7_mark yX7_mark ∈ wA ∧ Cond.initialized RX7 ∈ wA := ⟨tA 422 (by decide +kernel) rfl, tA 423 (by decide +kernel) rfl, tA 1 (by decide +kernel) rfl⟩
set_option maxRecDepth 100000 in
theorem kc_X7_heat : Cond.code yX7_heat cX7_heat 2 (some .int) ∈ wA := tA 448 (by decide +kernel) rfl
set_option maxRecDepth 100000 in
theorem ki_X7_heat : Cond.instanceMethod yX7_heat ∈ wA ∧ Cond.selects RX7 yX7_heat yX7_heat ∈ wA ∧ Cond.initialized RX7 ∈ wA := ⟨tA 446 (by decide +kernel) rfl, tA 447 (by decide +kernel) rfl, tA 1 (by decide +kernel) rfl⟩
set_option maxRecDepth 100000 in
theorem kc_X7_salve : Cond.code yX7_salve cX7_salve 3 (some .int) ∈ wA := tA 465 (by decide +kernel) rfl
set_option maxRecDepth 100000 in
theorem ki_X7_salve : Cond.instanceMethod yX7_salve ∈ wA ∧ Cond.selects RX7 yX7_salve yX7_salve ∈ wA ∧ Cond.initialized RX7 ∈ wA := ⟨tA 463 (by decide +kernel) rfl, tA 464 (by decide +kernel) rfl, tA 1 (by decide +kernel) rfl⟩
set_option maxRecDepth 100000 in
theorem kc_X7_trial : Cond.code yX7_trial cX7_trial 3 (some .int) ∈ wA := tA 473 (by decide +kernel) rfl
set_option maxRecDepth 100000 in
theorem ki_X7_trial : Cond.instanceMethod yX7_trial ∈ wA ∧ Cond.selects RX7 yX7_trial yX7_trial ∈ wA ∧ Cond.initialized RX7 ∈ wA := ⟨tA 471 (by decide +kernel) rfl, tA 472 (by decide +kernel) rfl, tA 1 (by decide +kernel) rfl⟩
set_option maxRecDepth 100000 in
theorem kc_X7_undo : Cond.code yX7_undo cX7_undo 3 (some .int) ∈ wA := tA 477 (by decide +kernel) rfl
set_option maxRecDepth 100000 in
theorem ki_X7_undo : Cond.instanceMethod yX7_undo ∈ wA ∧ Cond.selects RX7 yX7_undo yX7_undo ∈ wA ∧ Cond.initialized RX7 ∈ wA := ⟨tA 475 (by decide +kernel) rfl, tA 476 (by decide +kernel) rfl, tA 1 (by decide +kernel) rfl⟩
set_option maxRecDepth 100000 in
theorem kc_X7_keep : Cond.code yX7_keep cX7_keep 2 (some .int) ∈ wA := tA 482 (by decide +kernel) rfl
set_option maxRecDepth 100000 in
theorem ki_X7_keep : Cond.instanceMethod yX7_keep ∈ wA ∧ Cond.selects RX7 yX7_keep yX7_keep ∈ wA ∧ Cond.initialized RX7 ∈ wA := ⟨tA 480 (by decide +kernel) rfl, tA 481 (by decide +kernel) rfl, tA 1 (by decide +kernel) rfl⟩
set_option maxRecDepth 100000 in
theorem kc_X7_on : Cond.code yX7_on cX7_on 2 (some .int) ∈ wA := tA 493 (by decide +kernel) rfl
set_option maxRecDepth 100000 in
theorem ki_X7_on : Cond.instanceMethod yX7_on ∈ wA ∧ Cond.selects RX7 yX7_on yX7_on ∈ wA ∧ Cond.initialized RX7 ∈ wA := ⟨tA 491 (by decide +kernel) rfl, tA 492 (by decide +kernel) rfl, tA 1 (by decide +kernel) rfl⟩
set_option maxRecDepth 100000 in
theorem kc_X7_comes : Cond.code yX7_comes cX7_comes 6 (some .int) ∈ wA := tA 497 (by decide +kernel) rfl
set_option maxRecDepth 100000 in
theorem ki_X7_comes : Cond.instanceMethod yX7_comes ∈ wA ∧ Cond.selects RX7 yX7_comes yX7_comes ∈ wA ∧ Cond.initialized RX7 ∈ wA := ⟨tA 495 (by decide +kernel) rfl, tA 496 (by decide +kernel) rfl, tA 1 (by decide +kernel) rfl⟩
set_option maxRecDepth 100000 in
theorem kc_X7_wrong : Cond.code yX7_wrong cX7_wrong 3 (some .int) ∈ wA := tA 502 (by decide +kernel) rfl
set_option maxRecDepth 100000 in
theorem ki_X7_wrong : Cond.instanceMethod yX7_wrong ∈ wA ∧ Cond.selects RX7 yX7_wrong yX7_wrong ∈ wA ∧ Cond.initialized RX7 ∈ wA := ⟨tA 500 (by decide +kernel) rfl, tA 501 (by decide +kernel) rfl, tA 1 (by decide +kernel) rfl⟩
set_option maxRecDepth 100000 in
theorem kc_X7_best : Cond.code yX7_best cX7_best 5 (some .int) ∈ wA := tA 523 (by decide +kernel) rfl
set_option maxRecDepth 100000 in
theorem ki_X7_best : Cond.instanceMethod yX7_best ∈ wA ∧ Cond.selects RX7 yX7_best yX7_best ∈ wA ∧ Cond.initialized RX7 ∈ wA := ⟨tA 521 (by decide +kernel) rfl, tA 522 (by decide +kernel) rfl, tA 1 (by decide +kernel) rfl⟩
set_option maxRecDepth 100000 in
theorem kc_X7_heats : Cond.code yX7_heats cX7_heats 3 (some .int) ∈ wA := tA 527 (by decide +kernel) rfl
set_option maxRecDepth 100000 in
theorem ki_X7_heats : Cond.instanceMethod yX7_heats ∈ wA ∧ Cond.selects RX7 yX7_heats yX7_heats ∈ wA ∧ Cond.initialized RX7 ∈ wA := ⟨tA 525 (by decide +kernel) rfl, tA 526 (by decide +kernel) rfl, tA 1 (by decide +kernel) rfl⟩
set_option maxRecDepth 100000 in
theorem kc_X7_tells : Cond.code yX7_tells cX7_tells 7 (some .int) ∈ wA := tA 535 (by decide +kernel) rfl
set_option maxRecDepth 100000 in
theorem ki_X7_tells : Cond.instanceMethod yX7_tells ∈ wA ∧ Cond.selects RX7 yX7_tells yX7_tells ∈ wA ∧ Cond.initialized RX7 ∈ wA := ⟨tA 533 (by decide +kernel) rfl, tA 534 (by decide +kernel) rfl, tA 1 (by decide +kernel) rfl⟩
set_option maxRecDepth 100000 in
theorem kc_X7_order : Cond.code yX7_order cX7_order 3 (some .int) ∈ wA := tA 546 (by decide +kernel) rfl
set_option maxRecDepth 100000 in
theorem ki_X7_order : Cond.instanceMethod yX7_order ∈ wA ∧ Cond.selects RX7 yX7_order yX7_order ∈ wA ∧ Cond.initialized RX7 ∈ wA := ⟨tA 544 (by decide +kernel) rfl, tA 545 (by decide +kernel) rfl, tA 1 (by decide +kernel) rfl⟩
set_option maxRecDepth 100000 in
theorem kc_X7_tried : Cond.code yX7_tried cX7_tried 11 (some .int) ∈ wA := tA 578 (by decide +kernel) rfl
set_option maxRecDepth 100000 in
theorem ki_X7_tried : Cond.instanceMethod yX7_tried ∈ wA ∧ Cond.selects RX7 yX7_tried yX7_tried ∈ wA ∧ Cond.initialized RX7 ∈ wA := ⟨tA 576 (by decide +kernel) rfl, tA 577 (by decide +kernel) rfl, tA 1 (by decide +kernel) rfl⟩
set_option maxRecDepth 100000 in
theorem kc_X7_least : Cond.code yX7_least cX7_least 6 (some .int) ∈ wA := tA 590 (by decide +kernel) rfl
set_option maxRecDepth 100000 in
theorem ki_X7_least : Cond.instanceMethod yX7_least ∈ wA ∧ Cond.selects RX7 yX7_least yX7_least ∈ wA ∧ Cond.initialized RX7 ∈ wA := ⟨tA 588 (by decide +kernel) rfl, tA 589 (by decide +kernel) rfl, tA 1 (by decide +kernel) rfl⟩
set_option maxRecDepth 100000 in
theorem kc_X7_fits : Cond.code yX7_fits cX7_fits 4 (some .int) ∈ wA := tA 602 (by decide +kernel) rfl
set_option maxRecDepth 100000 in
theorem ki_X7_fits : Cond.instanceMethod yX7_fits ∈ wA ∧ Cond.selects RX7 yX7_fits yX7_fits ∈ wA ∧ Cond.initialized RX7 ∈ wA := ⟨tA 600 (by decide +kernel) rfl, tA 601 (by decide +kernel) rfl, tA 1 (by decide +kernel) rfl⟩
set_option maxRecDepth 100000 in
theorem kc_X7_ask : Cond.code yX7_ask cX7_ask 8 (some .int) ∈ wA := tA 620 (by decide +kernel) rfl
set_option maxRecDepth 100000 in
theorem ki_X7_ask : Cond.instanceMethod yX7_ask ∈ wA ∧ Cond.selects RX7 yX7_ask yX7_ask ∈ wA ∧ Cond.initialized RX7 ∈ wA := ⟨tA 618 (by decide +kernel) rfl, tA 619 (by decide +kernel) rfl, tA 1 (by decide +kernel) rfl⟩
set_option maxRecDepth 100000 in
theorem kc_X7_hands : Cond.code yX7_hands cX7_hands 7 (some .int) ∈ wA := tA 629 (by decide +kernel) rfl
set_option maxRecDepth 100000 in
theorem ki_X7_hands : Cond.instanceMethod yX7_hands ∈ wA ∧ Cond.selects RX7 yX7_hands yX7_hands ∈ wA ∧ Cond.initialized RX7 ∈ wA := ⟨tA 627 (by decide +kernel) rfl, tA 628 (by decide +kernel) rfl, tA 1 (by decide +kernel) rfl⟩
set_option maxRecDepth 100000 in
theorem kc_X7_kinds : Cond.code yX7_kinds cX7_kinds 7 (some .int) ∈ wA := tA 642 (by decide +kernel) rfl
set_option maxRecDepth 100000 in
theorem ki_X7_kinds : Cond.instanceMethod yX7_kinds ∈ wA ∧ Cond.selects RX7 yX7_kinds yX7_kinds ∈ wA ∧ Cond.initialized RX7 ∈ wA := ⟨tA 640 (by decide +kernel) rfl, tA 641 (by decide +kernel) rfl, tA 1 (by decide +kernel) rfl⟩
set_option maxRecDepth 100000 in
theorem kc_X7_duel : Cond.code yX7_duel cX7_duel 2 (some .int) ∈ wA := tA 646 (by decide +kernel) rfl
set_option maxRecDepth 100000 in
theorem ki_X7_duel : Cond.instanceMethod yX7_duel ∈ wA ∧ Cond.selects RX7 yX7_duel yX7_duel ∈ wA ∧ Cond.initialized RX7 ∈ wA := ⟨tA 644 (by decide +kernel) rfl, tA 645 (by decide +kernel) rfl, tA 1 (by decide +kernel) rfl⟩
set_option maxRecDepth 100000 in
theorem kc_X7_odds : Cond.code yX7_odds cX7_odds 9 (some .int) ∈ wA := tA 665 (by decide +kernel) rfl
set_option maxRecDepth 100000 in
theorem ki_X7_odds : Cond.instanceMethod yX7_odds ∈ wA ∧ Cond.selects RX7 yX7_odds yX7_odds ∈ wA ∧ Cond.initialized RX7 ∈ wA := ⟨tA 663 (by decide +kernel) rfl, tA 664 (by decide +kernel) rfl, tA 1 (by decide +kernel) rfl⟩
set_option maxRecDepth 100000 in
theorem kc_X7_mid : Cond.code yX7_mid cX7_mid 7 (some .int) ∈ wA := tA 678 (by decide +kernel) rfl
set_option maxRecDepth 100000 in
theorem ki_X7_mid : Cond.instanceMethod yX7_mid ∈ wA ∧ Cond.selects RX7 yX7_mid yX7_mid ∈ wA ∧ Cond.initialized RX7 ∈ wA := ⟨tA 676 (by decide +kernel) rfl, tA 677 (by decide +kernel) rfl, tA 1 (by decide +kernel) rfl⟩
set_option maxRecDepth 100000 in
theorem kc_X7_lots : Cond.code yX7_lots cX7_lots 9 (some .int) ∈ wA := tA 683 (by decide +kernel) rfl
set_option maxRecDepth 100000 in
theorem ki_X7_lots : Cond.instanceMethod yX7_lots ∈ wA ∧ Cond.selects RX7 yX7_lots yX7_lots ∈ wA ∧ Cond.initialized RX7 ∈ wA := ⟨tA 681 (by decide +kernel) rfl, tA 682 (by decide +kernel) rfl, tA 1 (by decide +kernel) rfl⟩
set_option maxRecDepth 100000 in
theorem kc_X7_asked : Cond.code yX7_asked cX7_asked 1 (some .int) ∈ wA := tA 701 (by decide +kernel) rfl
set_option maxRecDepth 100000 in
theorem ki_X7_asked : Cond.instanceMethod yX7_asked ∈ wA ∧ Cond.selects RX7 yX7_asked yX7_asked ∈ wA ∧ Cond.initialized RX7 ∈ wA := ⟨tA 699 (by decide +kernel) rfl, tA 700 (by decide +kernel) rfl, tA 1 (by decide +kernel) rfl⟩
set_option maxRecDepth 100000 in
theorem kc_X7_upper : Cond.code yX7_upper cX7_upper 1 (some .long) ∈ wA := tA 705 (by decide +kernel) rfl
set_option maxRecDepth 100000 in
theorem ki_X7_upper : Cond.instanceMethod yX7_upper ∈ wA ∧ Cond.selects RX7 yX7_upper yX7_upper ∈ wA ∧ Cond.initialized RX7 ∈ wA := ⟨tA 703 (by decide +kernel) rfl, tA 704 (by decide +kernel) rfl, tA 1 (by decide +kernel) rfl⟩
set_option maxRecDepth 100000 in
theorem kc_X7_lower : Cond.code yX7_lower cX7_lower 1 (some .long) ∈ wA := tA 709 (by decide +kernel) rfl
set_option maxRecDepth 100000 in
theorem ki_X7_lower : Cond.instanceMethod yX7_lower ∈ wA ∧ Cond.selects RX7 yX7_lower yX7_lower ∈ wA ∧ Cond.initialized RX7 ∈ wA := ⟨tA 707 (by decide +kernel) rfl, tA 708 (by decide +kernel) rfl, tA 1 (by decide +kernel) rfl⟩
set_option maxRecDepth 100000 in
theorem kc_X7_count : Cond.code yX7_count cX7_count 2 (some .int) ∈ wA := tA 713 (by decide +kernel) rfl
set_option maxRecDepth 100000 in
theorem ki_X7_count : Cond.instanceMethod yX7_count ∈ wA ∧ Cond.selects RX7 yX7_count yX7_count ∈ wA ∧ Cond.initialized RX7 ∈ wA := ⟨tA 711 (by decide +kernel) rfl, tA 712 (by decide +kernel) rfl, tA 1 (by decide +kernel) rfl⟩
set_option maxRecDepth 100000 in
theorem kc_X7_finding : Cond.code yX7_finding cX7_finding 1 (some .int) ∈ wA := tA 733 (by decide +kernel) rfl
set_option maxRecDepth 100000 in
theorem ki_X7_finding : Cond.instanceMethod yX7_finding ∈ wA ∧ Cond.selects RX7 yX7_finding yX7_finding ∈ wA ∧ Cond.initialized RX7 ∈ wA := ⟨tA 731 (by decide +kernel) rfl, tA 732 (by decide +kernel) rfl, tA 1 (by decide +kernel) rfl⟩
set_option maxRecDepth 100000 in
theorem kc_X7_findings : Cond.code yX7_findings cX7_findings 2 (some .int) ∈ wA := tA 737 (by decide +kernel) rfl
set_option maxRecDepth 100000 in
theorem ki_X7_findings : Cond.instanceMethod yX7_findings ∈ wA ∧ Cond.selects RX7 yX7_findings yX7_findings ∈ wA ∧ Cond.initialized RX7 ∈ wA := ⟨tA 735 (by decide +kernel) rfl, tA 736 (by decide +kernel) rfl, tA 1 (by decide +kernel) rfl⟩
set_option maxRecDepth 100000 in
theorem kc_X7_digest : Cond.code yX7_digest cX7_digest 5 (some .long) ∈ wA := tA 741 (by decide +kernel) rfl
set_option maxRecDepth 100000 in
theorem ki_X7_digest : Cond.instanceMethod yX7_digest ∈ wA ∧ Cond.selects RX7 yX7_digest yX7_digest ∈ wA ∧ Cond.initialized RX7 ∈ wA := ⟨tA 739 (by decide +kernel) rfl, tA 740 (by decide +kernel) rfl, tA 1 (by decide +kernel) rfl⟩
set_option maxRecDepth 100000 in
theorem kc_X7_found : Cond.code yX7_found cX7_found 2 (some .int) ∈ wA := tA 249 (by decide +kernel) rfl
set_option maxRecDepth 100000 in
theorem ki_X7_found : Cond.instanceMethod yX7_found ∈ wA ∧ Cond.selects RX7 yX7_found yX7_found ∈ wA ∧ Cond.initialized RX7 ∈ wA := ⟨tA 248 (by decide +kernel) rfl, tAp 1 (by decide +kernel), tA 1 (by decide +kernel) rfl⟩
set_option maxRecDepth 100000 in
theorem kc_X7_isOneOf : Cond.code yX7_isOneOf cX7_isOneOf 2 (some .boolean) ∈ wA := tA 245 (by decide +kernel) rfl
set_option maxRecDepth 100000 in
theorem ki_X7_isOneOf : Cond.static yX7_isOneOf ∈ wA ∧ Cond.initialized RX7 ∈ wA := ⟨tA 244 (by decide +kernel) rfl, tA 1 (by decide +kernel) rfl⟩
set_option maxRecDepth 100000 in
theorem kc_X7_isMan : Cond.code yX7_isMan cX7_isMan 2 (some .boolean) ∈ wA := tA 416 (by decide +kernel) rfl
set_option maxRecDepth 100000 in
theorem ki_X7_isMan : Cond.instanceMethod yX7_isMan ∈ wA ∧ Cond.selects RX7 yX7_isMan yX7_isMan ∈ wA ∧ Cond.initialized RX7 ∈ wA := ⟨tA 415 (by decide +kernel) rfl, tAp 10 (by decide +kernel), tA 1 (by decide +kernel) rfl⟩
set_option maxRecDepth 100000 in
theorem kc_X7_isKeptPlace : Cond.code yX7_isKeptPlace cX7_isKeptPlace 1 (some .boolean) ∈ wA := tA 485 (by decide +kernel) rfl
set_option maxRecDepth 100000 in
theorem ki_X7_isKeptPlace : Cond.static yX7_isKeptPlace ∈ wA ∧ Cond.initialized RX7 ∈ wA := ⟨tA 484 (by decide +kernel) rfl, tA 1 (by decide +kernel) rfl⟩
set_option maxRecDepth 100000 in
theorem kc_X7_missingRefusal : Cond.code yX7_missingRefusal cX7_missingRefusal 3 (some .int) ∈ wA := tA 265 (by decide +kernel) rfl
set_option maxRecDepth 100000 in
theorem ki_X7_missingRefusal : Cond.instanceMethod yX7_missingRefusal ∈ wA ∧ Cond.selects RX7 yX7_missingRefusal yX7_missingRefusal ∈ wA ∧ Cond.initialized RX7 ∈ wA := ⟨tA 264 (by decide +kernel) rfl, tAp 3 (by decide +kernel), tA 1 (by decide +kernel) rfl⟩
set_option maxRecDepth 100000 in
theorem kc_X7_placeRefusal : Cond.code yX7_placeRefusal cX7_placeRefusal 5 (some .int) ∈ wA := tA 261 (by decide +kernel) rfl
set_option maxRecDepth 100000 in
theorem ki_X7_placeRefusal : Cond.instanceMethod yX7_placeRefusal ∈ wA ∧ Cond.selects RX7 yX7_placeRefusal yX7_placeRefusal ∈ wA ∧ Cond.initialized RX7 ∈ wA := ⟨tA 260 (by decide +kernel) rfl, tAp 2 (by decide +kernel), tA 1 (by decide +kernel) rfl⟩
set_option maxRecDepth 100000 in
theorem kc_X7_laidOut : Cond.code yX7_laidOut cX7_laidOut 5 (some .int) ∈ wA := tA 242 (by decide +kernel) rfl
set_option maxRecDepth 100000 in
theorem ki_X7_laidOut : Cond.instanceMethod yX7_laidOut ∈ wA ∧ Cond.selects RX7 yX7_laidOut yX7_laidOut ∈ wA ∧ Cond.initialized RX7 ∈ wA := ⟨tA 241 (by decide +kernel) rfl, tAp 0 (by decide +kernel), tA 1 (by decide +kernel) rfl⟩
set_option maxRecDepth 100000 in
theorem kc_X7_rowRefusal : Cond.code yX7_rowRefusal cX7_rowRefusal 2 (some .int) ∈ wA := tA 550 (by decide +kernel) rfl
set_option maxRecDepth 100000 in
theorem ki_X7_rowRefusal : Cond.instanceMethod yX7_rowRefusal ∈ wA ∧ Cond.selects RX7 yX7_rowRefusal yX7_rowRefusal ∈ wA ∧ Cond.initialized RX7 ∈ wA := ⟨tA 549 (by decide +kernel) rfl, tAp 14 (by decide +kernel), tA 1 (by decide +kernel) rfl⟩
set_option maxRecDepth 100000 in
theorem kc_X7_heatRefusal : Cond.code yX7_heatRefusal cX7_heatRefusal 2 (some .int) ∈ wA := tA 506 (by decide +kernel) rfl
set_option maxRecDepth 100000 in
theorem ki_X7_heatRefusal : Cond.instanceMethod yX7_heatRefusal ∈ wA ∧ Cond.selects RX7 yX7_heatRefusal yX7_heatRefusal ∈ wA ∧ Cond.initialized RX7 ∈ wA := ⟨tA 505 (by decide +kernel) rfl, tAp 11 (by decide +kernel), tA 1 (by decide +kernel) rfl⟩
set_option maxRecDepth 100000 in
theorem kc_X7_chanceRefusal : Cond.code yX7_chanceRefusal cX7_chanceRefusal 2 (some .int) ∈ wA := tA 669 (by decide +kernel) rfl
set_option maxRecDepth 100000 in
theorem ki_X7_chanceRefusal : Cond.instanceMethod yX7_chanceRefusal ∈ wA ∧ Cond.selects RX7 yX7_chanceRefusal yX7_chanceRefusal ∈ wA ∧ Cond.initialized RX7 ∈ wA := ⟨tA 668 (by decide +kernel) rfl, tAp 20 (by decide +kernel), tA 1 (by decide +kernel) rfl⟩
set_option maxRecDepth 100000 in
theorem kc_X7_trialsRefusal : Cond.code yX7_trialsRefusal cX7_trialsRefusal 4 (some .int) ∈ wA := tA 606 (by decide +kernel) rfl
set_option maxRecDepth 100000 in
theorem ki_X7_trialsRefusal : Cond.instanceMethod yX7_trialsRefusal ∈ wA ∧ Cond.selects RX7 yX7_trialsRefusal yX7_trialsRefusal ∈ wA ∧ Cond.initialized RX7 ∈ wA := ⟨tA 605 (by decide +kernel) rfl, tAp 17 (by decide +kernel), tA 1 (by decide +kernel) rfl⟩
set_option maxRecDepth 100000 in
theorem kc_X7_suppositionRefusal : Cond.code yX7_suppositionRefusal cX7_suppositionRefusal 4 (some .int) ∈ wA := tA 633 (by decide +kernel) rfl
set_option maxRecDepth 100000 in
theorem ki_X7_suppositionRefusal : Cond.instanceMethod yX7_suppositionRefusal ∈ wA ∧ Cond.selects RX7 yX7_suppositionRefusal yX7_suppositionRefusal ∈ wA ∧ Cond.initialized RX7 ∈ wA := ⟨tA 632 (by decide +kernel) rfl, tAp 18 (by decide +kernel), tA 1 (by decide +kernel) rfl⟩
set_option maxRecDepth 100000 in
theorem kc_X7_pairsFinding : Cond.code yX7_pairsFinding cX7_pairsFinding 4 (some .int) ∈ wA := tA 609 (by decide +kernel) rfl
set_option maxRecDepth 100000 in
theorem ki_X7_pairsFinding : Cond.static yX7_pairsFinding ∈ wA ∧ Cond.initialized RX7 ∈ wA := ⟨tA 608 (by decide +kernel) rfl, tA 1 (by decide +kernel) rfl⟩
set_option maxRecDepth 100000 in
theorem kc_X7_orderFinding : Cond.code yX7_orderFinding cX7_orderFinding 5 (some .int) ∈ wA := tA 582 (by decide +kernel) rfl
set_option maxRecDepth 100000 in
theorem ki_X7_orderFinding : Cond.instanceMethod yX7_orderFinding ∈ wA ∧ Cond.selects RX7 yX7_orderFinding yX7_orderFinding ∈ wA ∧ Cond.initialized RX7 ∈ wA := ⟨tA 581 (by decide +kernel) rfl, tAp 16 (by decide +kernel), tA 1 (by decide +kernel) rfl⟩
set_option maxRecDepth 100000 in
theorem kc_X7_tellFraction : Cond.code yX7_tellFraction cX7_tellFraction 7 none ∈ wA := tA 539 (by decide +kernel) rfl
set_option maxRecDepth 100000 in
theorem ki_X7_tellFraction : Cond.instanceMethod yX7_tellFraction ∈ wA ∧ Cond.selects RX7 yX7_tellFraction yX7_tellFraction ∈ wA ∧ Cond.initialized RX7 ∈ wA := ⟨tA 538 (by decide +kernel) rfl, tAp 13 (by decide +kernel), tA 1 (by decide +kernel) rfl⟩
set_option maxRecDepth 100000 in
theorem kc_X7_commonDivisor : Cond.code yX7_commonDivisor cX7_commonDivisor 11 (some .long) ∈ wA := tA 542 (by decide +kernel) rfl
set_option maxRecDepth 100000 in
theorem ki_X7_commonDivisor : Cond.static yX7_commonDivisor ∈ wA ∧ Cond.initialized RX7 ∈ wA := ⟨tA 541 (by decide +kernel) rfl, tA 1 (by decide +kernel) rfl⟩
set_option maxRecDepth 100000 in
theorem kc_X7_howManyThere : Cond.code yX7_howManyThere cX7_howManyThere 3 (some .int) ∈ wA := tA 725 (by decide +kernel) rfl
set_option maxRecDepth 100000 in
theorem ki_X7_howManyThere : Cond.static yX7_howManyThere ∈ wA ∧ Cond.initialized RX7 ∈ wA := ⟨tA 724 (by decide +kernel) rfl, tA 1 (by decide +kernel) rfl⟩
set_option maxRecDepth 100000 in
theorem kc_X7_courtsKept : Cond.code yX7_courtsKept cX7_courtsKept 3 (some .int) ∈ wA := tA 729 (by decide +kernel) rfl
set_option maxRecDepth 100000 in
theorem ki_X7_courtsKept : Cond.instanceMethod yX7_courtsKept ∈ wA ∧ Cond.selects RX7 yX7_courtsKept yX7_courtsKept ∈ wA ∧ Cond.initialized RX7 ∈ wA := ⟨tA 728 (by decide +kernel) rfl, tAp 21 (by decide +kernel), tA 1 (by decide +kernel) rfl⟩
set_option maxRecDepth 100000 in
theorem kc_X8_init : Cond.code yX8_init cX8_init 1 none ∈ wA := tA 754 (by decide +kernel) rfl
set_option maxRecDepth 100000 in
theorem ki_X8_init : Cond.instanceMethod yX8_init ∈ wA ∧ Cond.initialized RX8 ∈ wA := ⟨tA 753 (by decide +kernel) rfl, tA 9 (by decide +kernel) rfl⟩
set_option maxRecDepth 100000 in
theorem kc_X8_layBegun : Cond.code yX8_layBegun cX8_layBegun 2 none ∈ wA := tA 759 (by decide +kernel) rfl
set_option maxRecDepth 100000 in
theorem ki_X8_layBegun : Cond.instanceMethod yX8_layBegun ∈ wA ∧ Cond.selects RX8 yX8_layBegun yX8_layBegun ∈ wA ∧ Cond.initialized RX8 ∈ wA := ⟨tA 758 (by decide +kernel) rfl, tAp 22 (by decide +kernel), tA 9 (by decide +kernel) rfl⟩
set_option maxRecDepth 100000 in
theorem kc_X8_bits : Cond.code yX8_bits cX8_bits 3 (some .int) ∈ wA := tA 1150 (by decide +kernel) rfl
set_option maxRecDepth 100000 in
theorem ki_X8_bits : Cond.static yX8_bits ∈ wA ∧ Cond.initialized RX8 ∈ wA := ⟨tA 1149 (by decide +kernel) rfl, tA 9 (by decide +kernel) rfl⟩
set_option maxRecDepth 100000 in
theorem kc_X8_some : Cond.code yX8_some cX8_some 1 (some .int) ∈ wA := tA 986 (by decide +kernel) rfl
set_option maxRecDepth 100000 in
theorem ki_X8_some : Cond.static yX8_some ∈ wA ∧ Cond.initialized RX8 ∈ wA := ⟨tA 985 (by decide +kernel) rfl, tA 9 (by decide +kernel) rfl⟩
set_option maxRecDepth 100000 in
theorem kc_X8_in : Cond.code yX8_in cX8_in 6 (some .boolean) ∈ wA := tA 861 (by decide +kernel) rfl
set_option maxRecDepth 100000 in
theorem ki_X8_in : Cond.static yX8_in ∈ wA ∧ Cond.initialized RX8 ∈ wA := ⟨tA 860 (by decide +kernel) rfl, tA 9 (by decide +kernel) rfl⟩
set_option maxRecDepth 100000 in
theorem kc_X8_has : Cond.code yX8_has cX8_has 2 (some .boolean) ∈ wA := tA 1041 (by decide +kernel) rfl
set_option maxRecDepth 100000 in
theorem ki_X8_has : Cond.static yX8_has ∈ wA ∧ Cond.initialized RX8 ∈ wA := ⟨tA 1040 (by decide +kernel) rfl, tA 9 (by decide +kernel) rfl⟩
set_option maxRecDepth 100000 in
theorem kc_X8_find : Cond.code yX8_find cX8_find 2 (some .int) ∈ wA := tA 865 (by decide +kernel) rfl
set_option maxRecDepth 100000 in
theorem ki_X8_find : Cond.instanceMethod yX8_find ∈ wA ∧ Cond.selects RX8 yX8_find yX8_find ∈ wA ∧ Cond.initialized RX8 ∈ wA := ⟨tA 864 (by decide +kernel) rfl, tAp 23 (by decide +kernel), tA 9 (by decide +kernel) rfl⟩
set_option maxRecDepth 100000 in
theorem kc_X8_tell : Cond.code yX8_tell cX8_tell 2 (some .int) ∈ wA := tA 881 (by decide +kernel) rfl
set_option maxRecDepth 100000 in
theorem ki_X8_tell : Cond.instanceMethod yX8_tell ∈ wA ∧ Cond.selects RX8 yX8_tell yX8_tell ∈ wA ∧ Cond.initialized RX8 ∈ wA := ⟨tA 880 (by decide +kernel) rfl, tAp 26 (by decide +kernel), tA 9 (by decide +kernel) rfl⟩
set_option maxRecDepth 100000 in
theorem kc_X8_isRow : Cond.code yX8_isRow cX8_isRow 1 (some .boolean) ∈ wA := tA 857 (by decide +kernel) rfl
set_option maxRecDepth 100000 in
theorem ki_X8_isRow : Cond.static yX8_isRow ∈ wA ∧ Cond.initialized RX8 ∈ wA := ⟨tA 856 (by decide +kernel) rfl, tA 9 (by decide +kernel) rfl⟩
set_option maxRecDepth 100000 in
theorem kc_X8_isText : Cond.code yX8_isText cX8_isText 1 (some .boolean) ∈ wA := tA 908 (by decide +kernel) rfl
set_option maxRecDepth 100000 in
theorem ki_X8_isText : Cond.static yX8_isText ∈ wA ∧ Cond.initialized RX8 ∈ wA := ⟨tA 907 (by decide +kernel) rfl, tA 9 (by decide +kernel) rfl⟩
set_option maxRecDepth 100000 in
theorem kc_X8_row : Cond.code yX8_row cX8_row 3 (some .int) ∈ wA := tA 854 (by decide +kernel) rfl
set_option maxRecDepth 100000 in
theorem ki_X8_row : Cond.instanceMethod yX8_row ∈ wA ∧ Cond.selects RX8 yX8_row yX8_row ∈ wA ∧ Cond.initialized RX8 ∈ wA := ⟨tA 852 (by decide +kernel) rfl, tA 853 (by decide +kernel) rfl, tA 9 (by decide +kernel) rfl⟩
set_option maxRecDepth 100000 in
theorem kc_X8_makeRow : Cond.code yX8_makeRow cX8_makeRow 4 none ∈ wA := tA 869 (by decide +kernel) rfl
set_option maxRecDepth 100000 in
theorem ki_X8_makeRow : Cond.instanceMethod yX8_makeRow ∈ wA ∧ Cond.selects RX8 yX8_makeRow yX8_makeRow ∈ wA ∧ Cond.initialized RX8 ∈ wA := ⟨tA 868 (by decide +kernel) rfl, tAp 24 (by decide +kernel), tA 9 (by decide +kernel) rfl⟩
set_option maxRecDepth 100000 in
theorem kc_X8_refused : Cond.code yX8_refused cX8_refused 3 (some .int) ∈ wA := tA 877 (by decide +kernel) rfl
set_option maxRecDepth 100000 in
theorem ki_X8_refused : Cond.instanceMethod yX8_refused ∈ wA ∧ Cond.selects RX8 yX8_refused yX8_refused ∈ wA ∧ Cond.initialized RX8 ∈ wA := ⟨tA 876 (by decide +kernel) rfl, tAp 25 (by decide +kernel), tA 9 (by decide +kernel) rfl⟩
set_option maxRecDepth 100000 in
theorem kc_X8_lay : Cond.code yX8_lay cX8_lay 6 (some .int) ∈ wA := tA 873 (by decide +kernel) rfl
set_option maxRecDepth 100000 in
theorem ki_X8_lay : Cond.instanceMethod yX8_lay ∈ wA ∧ Cond.selects RX8 yX8_lay yX8_lay ∈ wA ∧ Cond.initialized RX8 ∈ wA := ⟨tA 871 (by decide +kernel) rfl, tA 872 (by decide +kernel) rfl, tA 9 (by decide +kernel) rfl⟩
set_option maxRecDepth 100000 in
theorem kc_X8_at : Cond.code yX8_at cX8_at 4 (some .int) ∈ wA := tA 885 (by decide +kernel) rfl
set_option maxRecDepth 100000 in
theorem ki_X8_at : Cond.instanceMethod yX8_at ∈ wA ∧ Cond.selects RX8 yX8_at yX8_at ∈ wA ∧ Cond.initialized RX8 ∈ wA := ⟨tA 883 (by decide +kernel) rfl, tA 884 (by decide +kernel) rfl, tA 9 (by decide +kernel) rfl⟩
set_option maxRecDepth 100000 in
theorem kc_X8_tear : Cond.code yX8_tear cX8_tear 2 (some .int) ∈ wA := tA 889 (by decide +kernel) rfl
set_option maxRecDepth 100000 in
theorem ki_X8_tear : Cond.instanceMethod yX8_tear ∈ wA ∧ Cond.selects RX8 yX8_tear yX8_tear ∈ wA ∧ Cond.initialized RX8 ∈ wA := ⟨tA 887 (by decide +kernel) rfl, tA 888 (by decide +kernel) rfl, tA 9 (by decide +kernel) rfl⟩
set_option maxRecDepth 100000 in
theorem kc_X8_isSpan : Cond.code yX8_isSpan cX8_isSpan 4 (some .boolean) ∈ wA := tA 897 (by decide +kernel) rfl
set_option maxRecDepth 100000 in
theorem ki_X8_isSpan : Cond.instanceMethod yX8_isSpan ∈ wA ∧ Cond.selects RX8 yX8_isSpan yX8_isSpan ∈ wA ∧ Cond.initialized RX8 ∈ wA := ⟨tA 896 (by decide +kernel) rfl, tAp 27 (by decide +kernel), tA 9 (by decide +kernel) rfl⟩
set_option maxRecDepth 100000 in
theorem kc_X8_copy : Cond.code yX8_copy cX8_copy 9 (some .int) ∈ wA := tA 893 (by decide +kernel) rfl
set_option maxRecDepth 100000 in
theorem ki_X8_copy : Cond.instanceMethod yX8_copy ∈ wA ∧ Cond.selects RX8 yX8_copy yX8_copy ∈ wA ∧ Cond.initialized RX8 ∈ wA := ⟨tA 891 (by decide +kernel) rfl, tA 892 (by decide +kernel) rfl, tA 9 (by decide +kernel) rfl⟩
set_option maxRecDepth 100000 in
theorem kc_X8_mean : Cond.code yX8_mean cX8_mean 5 (some .int) ∈ wA := tA 901 (by decide +kernel) rfl
set_option maxRecDepth 100000 in
theorem ki_X8_mean : Cond.instanceMethod yX8_mean ∈ wA ∧ Cond.selects RX8 yX8_mean yX8_mean ∈ wA ∧ Cond.initialized RX8 ∈ wA := ⟨tA 899 (by decide +kernel) rfl, tA 900 (by decide +kernel) rfl, tA 9 (by decide +kernel) rfl⟩
set_option maxRecDepth 100000 in
theorem kc_X8_text : Cond.code yX8_text cX8_text 4 (some .int) ∈ wA := tA 905 (by decide +kernel) rfl
set_option maxRecDepth 100000 in
theorem ki_X8_text : Cond.instanceMethod yX8_text ∈ wA ∧ Cond.selects RX8 yX8_text yX8_text ∈ wA ∧ Cond.initialized RX8 ∈ wA := ⟨tA 903 (by decide +kernel) rfl, tA 904 (by decide +kernel) rfl, tA 9 (by decide +kernel) rfl⟩
set_option maxRecDepth 100000 in
theorem kc_X8_put : Cond.code yX8_put cX8_put 5 (some .int) ∈ wA := tA 913 (by decide +kernel) rfl
set_option maxRecDepth 100000 in
theorem ki_X8_put : Cond.instanceMethod yX8_put ∈ wA ∧ Cond.selects RX8 yX8_put yX8_put ∈ wA ∧ Cond.initialized RX8 ∈ wA := ⟨tA 911 (by decide +kernel) rfl, tA 912 (by decide +kernel) rfl, tA 9 (by decide +kernel) rfl⟩
set_option maxRecDepth 100000 in
theorem kc_X8_here : Cond.code yX8_here cX8_here 1 (some .int) ∈ wA := tA 933 (by decide +kernel) rfl
set_option maxRecDepth 100000 in
theorem ki_X8_here : Cond.instanceMethod yX8_here ∈ wA ∧ Cond.selects RX8 yX8_here yX8_here ∈ wA ∧ Cond.initialized RX8 ∈ wA := ⟨tA 932 (by decide +kernel) rfl, tAp 31 (by decide +kernel), tA 9 (by decide +kernel) rfl⟩
set_option maxRecDepth 100000 in
theorem kc_X8_skip : Cond.code yX8_skip cX8_skip 1 none ∈ wA := tA 929 (by decide +kernel) rfl
set_option maxRecDepth 100000 in
theorem ki_X8_skip : Cond.instanceMethod yX8_skip ∈ wA ∧ Cond.selects RX8 yX8_skip yX8_skip ∈ wA ∧ Cond.initialized RX8 ∈ wA := ⟨tA 928 (by decide +kernel) rfl, tAp 30 (by decide +kernel), tA 9 (by decide +kernel) rfl⟩
set_option maxRecDepth 100000 in
theorem kc_X8_isFigure : Cond.code yX8_isFigure cX8_isFigure 3 (some .boolean) ∈ wA := tA 941 (by decide +kernel) rfl
set_option maxRecDepth 100000 in
theorem ki_X8_isFigure : Cond.instanceMethod yX8_isFigure ∈ wA ∧ Cond.selects RX8 yX8_isFigure yX8_isFigure ∈ wA ∧ Cond.initialized RX8 ∈ wA := ⟨tA 940 (by decide +kernel) rfl, tAp 33 (by decide +kernel), tA 9 (by decide +kernel) rfl⟩
set_option maxRecDepth 100000 in
theorem kc_X8_figure : Cond.code yX8_figure cX8_figure 3 (some .int) ∈ wA := tA 937 (by decide +kernel) rfl
set_option maxRecDepth 100000 in
theorem ki_X8_figure : Cond.instanceMethod yX8_figure ∈ wA ∧ Cond.selects RX8 yX8_figure yX8_figure ∈ wA ∧ Cond.initialized RX8 ∈ wA := ⟨tA 936 (by decide +kernel) rfl, tAp 32 (by decide +kernel), tA 9 (by decide +kernel) rfl⟩
set_option maxRecDepth 100000 in
theorem kc_X8_readsIron : Cond.code yX8_readsIron cX8_readsIron 3 (some .boolean) ∈ wA := tA 925 (by decide +kernel) rfl
set_option maxRecDepth 100000 in
theorem ki_X8_readsIron : Cond.instanceMethod yX8_readsIron ∈ wA ∧ Cond.selects RX8 yX8_readsIron yX8_readsIron ∈ wA ∧ Cond.initialized RX8 ∈ wA := ⟨tA 924 (by decide +kernel) rfl, tAp 29 (by decide +kernel), tA 9 (by decide +kernel) rfl⟩
set_option maxRecDepth 100000 in
theorem kc_X8_kindOfLetter : Cond.code yX8_kindOfLetter cX8_kindOfLetter 1 (some .int) ∈ wA := tA 948 (by decide +kernel) rfl
set_option maxRecDepth 100000 in
theorem ki_X8_kindOfLetter : Cond.static yX8_kindOfLetter ∈ wA ∧ Cond.initialized RX8 ∈ wA := ⟨tA 947 (by decide +kernel) rfl, tA 9 (by decide +kernel) rfl⟩
set_option maxRecDepth 100000 in
theorem kc_X8_readsMan : Cond.code yX8_readsMan cX8_readsMan 5 (some .boolean) ∈ wA := tA 945 (by decide +kernel) rfl
set_option maxRecDepth 100000 in
theorem ki_X8_readsMan : Cond.instanceMethod yX8_readsMan ∈ wA ∧ Cond.selects RX8 yX8_readsMan yX8_readsMan ∈ wA ∧ Cond.initialized RX8 ∈ wA := ⟨tA 944 (by decide +kernel) rfl, tAp 34 (by decide +kernel), tA 9 (by decide +kernel) rfl⟩
set_option maxRecDepth 100000 in
theorem kc_X8_faultOf : Cond.code yX8_faultOf cX8_faultOf 3 (some .int) ∈ wA := tA 921 (by decide +kernel) rfl
set_option maxRecDepth 100000 in
theorem ki_X8_faultOf : Cond.instanceMethod yX8_faultOf ∈ wA ∧ Cond.selects RX8 yX8_faultOf yX8_faultOf ∈ wA ∧ Cond.initialized RX8 ∈ wA := ⟨tA 920 (by decide +kernel) rfl, tAp 28 (by decide +kernel), tA 9 (by decide +kernel) rfl⟩
set_option maxRecDepth 100000 in
theorem kc_X8_fault : Cond.code yX8_fault cX8_fault 2 (some .int) ∈ wA := tA 917 (by decide +kernel) rfl
set_option maxRecDepth 100000 in
theorem ki_X8_fault : Cond.instanceMethod yX8_fault ∈ wA ∧ Cond.selects RX8 yX8_fault yX8_fault ∈ wA ∧ Cond.initialized RX8 ∈ wA := ⟨tA 915 (by decide +kernel) rfl, tA 916 (by decide +kernel) rfl, tA 9 (by decide +kernel) rfl⟩
set_option maxRecDepth 100000 in
theorem kc_X8_court : Cond.code yX8_court cX8_court 3 (some .int) ∈ wA := tA 952 (by decide +kernel) rfl
set_option maxRecDepth 100000 in
theorem ki_X8_court : Cond.instanceMethod yX8_court ∈ wA ∧ Cond.selects RX8 yX8_court yX8_court ∈ wA ∧ Cond.initialized RX8 ∈ wA := ⟨tA 950 (by decide +kernel) rfl, tA 951 (by decide +kernel) rfl, tA 9 (by decide +kernel) rfl⟩
set_option maxRecDepth 100000 in
theorem kc_X8_isMan : Cond.code yX8_isMan cX8_isMan 2 (some .boolean) ∈ wA := tA 960 (by decide +kernel) rfl
set_option maxRecDepth 100000 in
theorem ki_X8_isMan : Cond.instanceMethod yX8_isMan ∈ wA ∧ Cond.selects RX8 yX8_isMan yX8_isMan ∈ wA ∧ Cond.initialized RX8 ∈ wA := ⟨tA 959 (by decide +kernel) rfl, tAp 35 (by decide +kernel), tA 9 (by decide +kernel) rfl⟩
set_option maxRecDepth 100000 in
theorem kc_X8_isClerk : Cond.code yX8_isClerk cX8_isClerk 1 (some .boolean) ∈ wA := tA 971 (by decide +kernel) rfl
set_option maxRecDepth 100000 in
theorem ki_X8_isClerk : Cond.static yX8_isClerk ∈ wA ∧ Cond.initialized RX8 ∈ wA := ⟨tA 970 (by decide +kernel) rfl, tA 9 (by decide +kernel) rfl⟩
set_option maxRecDepth 100000 in
theorem kc_X8_hardBy : Cond.code yX8_hardBy cX8_hardBy 2 (some .int) ∈ wA := tA 968 (by decide +kernel) rfl
set_option maxRecDepth 100000 in
theorem ki_X8_hardBy : Cond.static yX8_hardBy ∈ wA ∧ Cond.initialized RX8 ∈ wA := ⟨tA 967 (by decide +kernel) rfl, tA 9 (by decide +kernel) rfl⟩
set_option maxRecDepth 100000 in
theorem kc_X8_plainFeels : Cond.code yX8_plainFeels cX8_plainFeels 3 (some .int) ∈ wA := tA 983 (by decide +kernel) rfl
set_option maxRecDepth 100000 in
theorem ki_X8_plainFeels : Cond.instanceMethod yX8_plainFeels ∈ wA ∧ Cond.selects RX8 yX8_plainFeels yX8_plainFeels ∈ wA ∧ Cond.initialized RX8 ∈ wA := ⟨tA 982 (by decide +kernel) rfl, tAp 39 (by decide +kernel), tA 9 (by decide +kernel) rfl⟩
set_option maxRecDepth 100000 in
theorem kc_X8_burnsBy : Cond.code yX8_burnsBy cX8_burnsBy 6 (some .int) ∈ wA := tA 979 (by decide +kernel) rfl
set_option maxRecDepth 100000 in
theorem ki_X8_burnsBy : Cond.instanceMethod yX8_burnsBy ∈ wA ∧ Cond.selects RX8 yX8_burnsBy yX8_burnsBy ∈ wA ∧ Cond.initialized RX8 ∈ wA := ⟨tA 978 (by decide +kernel) rfl, tAp 38 (by decide +kernel), tA 9 (by decide +kernel) rfl⟩
set_option maxRecDepth 100000 in
theorem kc_X8_burns : Cond.code yX8_burns cX8_burns 3 (some .int) ∈ wA := tA 975 (by decide +kernel) rfl
set_option maxRecDepth 100000 in
theorem ki_X8_burns : Cond.instanceMethod yX8_burns ∈ wA ∧ Cond.selects RX8 yX8_burns yX8_burns ∈ wA ∧ Cond.initialized RX8 ∈ wA := ⟨tA 974 (by decide +kernel) rfl, tAp 37 (by decide +kernel), tA 9 (by decide +kernel) rfl⟩
set_option maxRecDepth 100000 in
theorem kc_X8_comesBy : Cond.code yX8_comesBy cX8_comesBy 5 (some .boolean) ∈ wA := tA 994 (by decide +kernel) rfl
set_option maxRecDepth 100000 in
theorem ki_X8_comesBy : Cond.instanceMethod yX8_comesBy ∈ wA ∧ Cond.selects RX8 yX8_comesBy yX8_comesBy ∈ wA ∧ Cond.initialized RX8 ∈ wA := ⟨tA 993 (by decide +kernel) rfl, tAp 41 (by decide +kernel), tA 9 (by decide +kernel) rfl⟩
set_option maxRecDepth 100000 in
theorem kc_X8_doesCome : Cond.code yX8_doesCome cX8_doesCome 3 (some .boolean) ∈ wA := tA 990 (by decide +kernel) rfl
set_option maxRecDepth 100000 in
theorem ki_X8_doesCome : Cond.instanceMethod yX8_doesCome ∈ wA ∧ Cond.selects RX8 yX8_doesCome yX8_doesCome ∈ wA ∧ Cond.initialized RX8 ∈ wA := ⟨tA 989 (by decide +kernel) rfl, tAp 40 (by decide +kernel), tA 9 (by decide +kernel) rfl⟩
set_option maxRecDepth 100000 in
theorem kc_X8_bearable : Cond.code yX8_bearable cX8_bearable 3 (some .int) ∈ wA := tA 1002 (by decide +kernel) rfl
set_option maxRecDepth 100000 in
theorem ki_X8_bearable : Cond.instanceMethod yX8_bearable ∈ wA ∧ Cond.selects RX8 yX8_bearable yX8_bearable ∈ wA ∧ Cond.initialized RX8 ∈ wA := ⟨tA 1001 (by decide +kernel) rfl, tAp 43 (by decide +kernel), tA 9 (by decide +kernel) rfl⟩
set_option maxRecDepth 100000 in
theorem kc_X8_isClean : Cond.code yX8_isClean cX8_isClean 4 (some .boolean) ∈ wA := tA 998 (by decide +kernel) rfl
set_option maxRecDepth 100000 in
theorem ki_X8_isClean : Cond.instanceMethod yX8_isClean ∈ wA ∧ Cond.selects RX8 yX8_isClean yX8_isClean ∈ wA ∧ Cond.initialized RX8 ∈ wA := ⟨tA 997 (by decide +kernel) rfl, tAp 42 (by decide +kernel), tA 9 (by decide +kernel) rfl⟩
set_option maxRecDepth 100000 in
theorem kc_X8_tellsBy : Cond.code yX8_tellsBy cX8_tellsBy 5 (some .int) ∈ wA := tA 1170 (by decide +kernel) rfl
set_option maxRecDepth 100000 in
theorem ki_X8_tellsBy : Cond.instanceMethod yX8_tellsBy ∈ wA ∧ Cond.selects RX8 yX8_tellsBy yX8_tellsBy ∈ wA ∧ Cond.initialized RX8 ∈ wA := ⟨tA 1169 (by decide +kernel) rfl, tAp 64 (by decide +kernel), tA 9 (by decide +kernel) rfl⟩
set_option maxRecDepth 100000 in
theorem kc_X8_tellsAt : Cond.code yX8_tellsAt cX8_tellsAt 4 (some .int) ∈ wA := tA 1053 (by decide +kernel) rfl
set_option maxRecDepth 100000 in
theorem ki_X8_tellsAt : Cond.instanceMethod yX8_tellsAt ∈ wA ∧ Cond.selects RX8 yX8_tellsAt yX8_tellsAt ∈ wA ∧ Cond.initialized RX8 ∈ wA := ⟨tA 1052 (by decide +kernel) rfl, tAp 50 (by decide +kernel), tA 9 (by decide +kernel) rfl⟩
set_option maxRecDepth 100000 in
theorem kc_X8_isWrong : Cond.code yX8_isWrong cX8_isWrong 3 (some .boolean) ∈ wA := tA 1057 (by decide +kernel) rfl
set_option maxRecDepth 100000 in
theorem ki_X8_isWrong : Cond.instanceMethod yX8_isWrong ∈ wA ∧ Cond.selects RX8 yX8_isWrong yX8_isWrong ∈ wA ∧ Cond.initialized RX8 ∈ wA := ⟨tA 1056 (by decide +kernel) rfl, tAp 51 (by decide +kernel), tA 9 (by decide +kernel) rfl⟩
set_option maxRecDepth 100000 in
theorem kc_X8_toldOf : Cond.code yX8_toldOf cX8_toldOf 3 (some .int) ∈ wA := tA 965 (by decide +kernel) rfl
set_option maxRecDepth 100000 in
theorem ki_X8_toldOf : Cond.instanceMethod yX8_toldOf ∈ wA ∧ Cond.selects RX8 yX8_toldOf yX8_toldOf ∈ wA ∧ Cond.initialized RX8 ∈ wA := ⟨tA 964 (by decide +kernel) rfl, tAp 36 (by decide +kernel), tA 9 (by decide +kernel) rfl⟩
set_option maxRecDepth 100000 in
theorem kc_X8_man : Cond.code yX8_man cX8_man 3 (some .int) ∈ wA := tA 956 (by decide +kernel) rfl
set_option maxRecDepth 100000 in
theorem ki_X8_man : Cond.instanceMethod yX8_man ∈ wA ∧ Cond.selects RX8 yX8_man yX8_man ∈ wA ∧ Cond.initialized RX8 ∈ wA := ⟨tA 954 (by decide +kernel) rfl, tA 955 (by decide +kernel) rfl, tA 9 (by decide +kernel) rfl⟩
set_option maxRecDepth 100000 in
theorem kc_X8_isOf : Cond.code yX8_isOf cX8_isOf 4 (some .boolean) ∈ wA := tA 1010 (by decide +kernel) rfl
set_option maxRecDepth 100000 in
theorem ki_X8_isOf : Cond.instanceMethod yX8_isOf ∈ wA ∧ Cond.selects RX8 yX8_isOf yX8_isOf ∈ wA ∧ Cond.initialized RX8 ∈ wA := ⟨tA 1009 (by decide +kernel) rfl, tAp 44 (by decide +kernel), tA 9 (by decide +kernel) rfl⟩
set_option maxRecDepth 100000 in
theorem kc_X8_moreHeat : Cond.code yX8_moreHeat cX8_moreHeat 3 (some .int) ∈ wA := tA 1014 (by decide +kernel) rfl
set_option maxRecDepth 100000 in
theorem ki_X8_moreHeat : Cond.instanceMethod yX8_moreHeat ∈ wA ∧ Cond.selects RX8 yX8_moreHeat yX8_moreHeat ∈ wA ∧ Cond.initialized RX8 ∈ wA := ⟨tA 1013 (by decide +kernel) rfl, tAp 45 (by decide +kernel), tA 9 (by decide +kernel) rfl⟩
set_option maxRecDepth 100000 in
theorem kc_X8_awayBut : Cond.code yX8_awayBut cX8_awayBut 4 (some .int) ∈ wA := tA 1018 (by decide +kernel) rfl
set_option maxRecDepth 100000 in
theorem ki_X8_awayBut : Cond.instanceMethod yX8_awayBut ∈ wA ∧ Cond.selects RX8 yX8_awayBut yX8_awayBut ∈ wA ∧ Cond.initialized RX8 ∈ wA := ⟨tA 1017 (by decide +kernel) rfl, tAp 46 (by decide +kernel), tA 9 (by decide +kernel) rfl⟩
set_option maxRecDepth 100000 in
theorem kc_X8_mark : Cond.code yX8_mark cX8_mark 3 (some .int) ∈ wA := tA 1006 (by decide +kernel) rfl
set_option maxRecDepth 100000 in
theorem ki_X8_mark : Cond.instanceMethod yX8_mark ∈ wA ∧ Cond.selects RX8 yX8_mark yX8_mark ∈ wA ∧ Cond.initialized RX8 ∈ wA := ⟨tA 1004 (by decide +kernel) rfl, tA 1005 (by decide +kernel) rfl, tA 9 (by decide +kernel) rfl⟩
set_option maxRecDepth 100000 in
theorem kc_X8_keepPast : Cond.code yX8_keepPast cX8_keepPast 2 none ∈ wA := tA 1027 (by decide +kernel) rfl
set_option maxRecDepth 100000 in
theorem ki_X8_keepPast : Cond.instanceMethod yX8_keepPast ∈ wA ∧ Cond.selects RX8 yX8_keepPast yX8_keepPast ∈ wA ∧ Cond.initialized RX8 ∈ wA := ⟨tA 1026 (by decide +kernel) rfl, tAp 47 (by decide +kernel), tA 9 (by decide +kernel) rfl⟩
set_option maxRecDepth 100000 in
theorem kc_X8_heatOf : Cond.code yX8_heatOf cX8_heatOf 1 (some .int) ∈ wA := tA 1030 (by decide +kernel) rfl
set_option maxRecDepth 100000 in
theorem ki_X8_heatOf : Cond.static yX8_heatOf ∈ wA ∧ Cond.initialized RX8 ∈ wA := ⟨tA 1029 (by decide +kernel) rfl, tA 9 (by decide +kernel) rfl⟩
set_option maxRecDepth 100000 in
theorem kc_X8_heat : Cond.code yX8_heat cX8_heat 2 (some .int) ∈ wA := tA 1022 (by decide +kernel) rfl
set_option maxRecDepth 100000 in
theorem ki_X8_heat : Cond.instanceMethod yX8_heat ∈ wA ∧ Cond.selects RX8 yX8_heat yX8_heat ∈ wA ∧ Cond.initialized RX8 ∈ wA := ⟨tA 1020 (by decide +kernel) rfl, tA 1021 (by decide +kernel) rfl, tA 9 (by decide +kernel) rfl⟩
set_option maxRecDepth 100000 in
theorem kc_X8_isDone : Cond.code yX8_isDone cX8_isDone 2 (some .boolean) ∈ wA := tA 1038 (by decide +kernel) rfl
set_option maxRecDepth 100000 in
theorem ki_X8_isDone : Cond.instanceMethod yX8_isDone ∈ wA ∧ Cond.selects RX8 yX8_isDone yX8_isDone ∈ wA ∧ Cond.initialized RX8 ∈ wA := ⟨tA 1037 (by decide +kernel) rfl, tAp 48 (by decide +kernel), tA 9 (by decide +kernel) rfl⟩
set_option maxRecDepth 100000 in
theorem kc_X8_salve : Cond.code yX8_salve cX8_salve 2 (some .int) ∈ wA := tA 1034 (by decide +kernel) rfl
set_option maxRecDepth 100000 in
theorem ki_X8_salve : Cond.instanceMethod yX8_salve ∈ wA ∧ Cond.selects RX8 yX8_salve yX8_salve ∈ wA ∧ Cond.initialized RX8 ∈ wA := ⟨tA 1032 (by decide +kernel) rfl, tA 1033 (by decide +kernel) rfl, tA 9 (by decide +kernel) rfl⟩
set_option maxRecDepth 100000 in
theorem kc_X8_tryAt : Cond.code yX8_tryAt cX8_tryAt 4 (some .int) ∈ wA := tA 1049 (by decide +kernel) rfl
set_option maxRecDepth 100000 in
theorem ki_X8_tryAt : Cond.instanceMethod yX8_tryAt ∈ wA ∧ Cond.selects RX8 yX8_tryAt yX8_tryAt ∈ wA ∧ Cond.initialized RX8 ∈ wA := ⟨tA 1048 (by decide +kernel) rfl, tAp 49 (by decide +kernel), tA 9 (by decide +kernel) rfl⟩
set_option maxRecDepth 100000 in
theorem kc_X8_trial : Cond.code yX8_trial cX8_trial 3 (some .int) ∈ wA := tA 1045 (by decide +kernel) rfl
set_option maxRecDepth 100000 in
theorem ki_X8_trial : Cond.instanceMethod yX8_trial ∈ wA ∧ Cond.selects RX8 yX8_trial yX8_trial ∈ wA ∧ Cond.initialized RX8 ∈ wA := ⟨tA 1043 (by decide +kernel) rfl, tA 1044 (by decide +kernel) rfl, tA 9 (by decide +kernel) rfl⟩
set_option maxRecDepth 100000 in
theorem kc_X8_undo : Cond.code yX8_undo cX8_undo 4 (some .int) ∈ wA := tA 1061 (by decide +kernel) rfl
set_option maxRecDepth 100000 in
theorem ki_X8_undo : Cond.instanceMethod yX8_undo ∈ wA ∧ Cond.selects RX8 yX8_undo yX8_undo ∈ wA ∧ Cond.initialized RX8 ∈ wA := ⟨tA 1059 (by decide +kernel) rfl, tA 1060 (by decide +kernel) rfl, tA 9 (by decide +kernel) rfl⟩
set_option maxRecDepth 100000 in
theorem kc_X8_copyCourt : Cond.code yX8_copyCourt cX8_copyCourt 4 none ∈ wA := tA 1070 (by decide +kernel) rfl
set_option maxRecDepth 100000 in
theorem ki_X8_copyCourt : Cond.instanceMethod yX8_copyCourt ∈ wA ∧ Cond.selects RX8 yX8_copyCourt yX8_copyCourt ∈ wA ∧ Cond.initialized RX8 ∈ wA := ⟨tA 1069 (by decide +kernel) rfl, tAp 52 (by decide +kernel), tA 9 (by decide +kernel) rfl⟩
set_option maxRecDepth 100000 in
theorem kc_X8_keep : Cond.code yX8_keep cX8_keep 2 (some .int) ∈ wA := tA 1065 (by decide +kernel) rfl
set_option maxRecDepth 100000 in
theorem ki_X8_keep : Cond.instanceMethod yX8_keep ∈ wA ∧ Cond.selects RX8 yX8_keep yX8_keep ∈ wA ∧ Cond.initialized RX8 ∈ wA := ⟨tA 1063 (by decide +kernel) rfl, tA 1064 (by decide +kernel) rfl, tA 9 (by decide +kernel) rfl⟩
set_option maxRecDepth 100000 in
theorem kc_X8_on : Cond.code yX8_on cX8_on 2 (some .int) ∈ wA := tA 1074 (by decide +kernel) rfl
set_option maxRecDepth 100000 in
theorem ki_X8_on : Cond.instanceMethod yX8_on ∈ wA ∧ Cond.selects RX8 yX8_on yX8_on ∈ wA ∧ Cond.initialized RX8 ∈ wA := ⟨tA 1072 (by decide +kernel) rfl, tA 1073 (by decide +kernel) rfl, tA 9 (by decide +kernel) rfl⟩
set_option maxRecDepth 100000 in
theorem kc_X8_comes : Cond.code yX8_comes cX8_comes 4 (some .int) ∈ wA := tA 1078 (by decide +kernel) rfl
set_option maxRecDepth 100000 in
theorem ki_X8_comes : Cond.instanceMethod yX8_comes ∈ wA ∧ Cond.selects RX8 yX8_comes yX8_comes ∈ wA ∧ Cond.initialized RX8 ∈ wA := ⟨tA 1076 (by decide +kernel) rfl, tA 1077 (by decide +kernel) rfl, tA 9 (by decide +kernel) rfl⟩
set_option maxRecDepth 100000 in
theorem kc_X8_wrongBy : Cond.code yX8_wrongBy cX8_wrongBy 6 (some .int) ∈ wA := tA 1087 (by decide +kernel) rfl
set_option maxRecDepth 100000 in
theorem ki_X8_wrongBy : Cond.instanceMethod yX8_wrongBy ∈ wA ∧ Cond.selects RX8 yX8_wrongBy yX8_wrongBy ∈ wA ∧ Cond.initialized RX8 ∈ wA := ⟨tA 1086 (by decide +kernel) rfl, tAp 53 (by decide +kernel), tA 9 (by decide +kernel) rfl⟩
set_option maxRecDepth 100000 in
theorem kc_X8_wrong : Cond.code yX8_wrong cX8_wrong 2 (some .int) ∈ wA := tA 1082 (by decide +kernel) rfl
set_option maxRecDepth 100000 in
theorem ki_X8_wrong : Cond.instanceMethod yX8_wrong ∈ wA ∧ Cond.selects RX8 yX8_wrong yX8_wrong ∈ wA ∧ Cond.initialized RX8 ∈ wA := ⟨tA 1080 (by decide +kernel) rfl, tA 1081 (by decide +kernel) rfl, tA 9 (by decide +kernel) rfl⟩
set_option maxRecDepth 100000 in
theorem kc_X8_best : Cond.code yX8_best cX8_best 3 (some .int) ∈ wA := tA 1091 (by decide +kernel) rfl
set_option maxRecDepth 100000 in
theorem ki_X8_best : Cond.instanceMethod yX8_best ∈ wA ∧ Cond.selects RX8 yX8_best yX8_best ∈ wA ∧ Cond.initialized RX8 ∈ wA := ⟨tA 1089 (by decide +kernel) rfl, tA 1090 (by decide +kernel) rfl, tA 9 (by decide +kernel) rfl⟩
set_option maxRecDepth 100000 in
theorem kc_X8_heats : Cond.code yX8_heats cX8_heats 5 (some .int) ∈ wA := tA 1095 (by decide +kernel) rfl
set_option maxRecDepth 100000 in
theorem ki_X8_heats : Cond.instanceMethod yX8_heats ∈ wA ∧ Cond.selects RX8 yX8_heats yX8_heats ∈ wA ∧ Cond.initialized RX8 ∈ wA := ⟨tA 1093 (by decide +kernel) rfl, tA 1094 (by decide +kernel) rfl, tA 9 (by decide +kernel) rfl⟩
set_option maxRecDepth 100000 in
theorem kc_X8_tellParts : Cond.code yX8_tellParts cX8_tellParts 11 (some .int) ∈ wA := tA 1103 (by decide +kernel) rfl
set_option maxRecDepth 100000 in
theorem ki_X8_tellParts : Cond.instanceMethod yX8_tellParts ∈ wA ∧ Cond.selects RX8 yX8_tellParts yX8_tellParts ∈ wA ∧ Cond.initialized RX8 ∈ wA := ⟨tA 1102 (by decide +kernel) rfl, tAp 54 (by decide +kernel), tA 9 (by decide +kernel) rfl⟩
set_option maxRecDepth 100000 in
theorem kc_X8_tells : Cond.code yX8_tells cX8_tells 7 (some .int) ∈ wA := tA 1099 (by decide +kernel) rfl
set_option maxRecDepth 100000 in
theorem ki_X8_tells : Cond.instanceMethod yX8_tells ∈ wA ∧ Cond.selects RX8 yX8_tells yX8_tells ∈ wA ∧ Cond.initialized RX8 ∈ wA := ⟨tA 1097 (by decide +kernel) rfl, tA 1098 (by decide +kernel) rfl, tA 9 (by decide +kernel) rfl⟩
set_option maxRecDepth 100000 in
theorem kc_X8_layTried : Cond.code yX8_layTried cX8_layTried 2 none ∈ wA := tA 1119 (by decide +kernel) rfl
set_option maxRecDepth 100000 in
theorem ki_X8_layTried : Cond.instanceMethod yX8_layTried ∈ wA ∧ Cond.selects RX8 yX8_layTried yX8_layTried ∈ wA ∧ Cond.initialized RX8 ∈ wA := ⟨tA 1118 (by decide +kernel) rfl, tAp 57 (by decide +kernel), tA 9 (by decide +kernel) rfl⟩
set_option maxRecDepth 100000 in
theorem kc_X8_layLine : Cond.code yX8_layLine cX8_layLine 2 none ∈ wA := tA 1111 (by decide +kernel) rfl
set_option maxRecDepth 100000 in
theorem ki_X8_layLine : Cond.instanceMethod yX8_layLine ∈ wA ∧ Cond.selects RX8 yX8_layLine yX8_layLine ∈ wA ∧ Cond.initialized RX8 ∈ wA := ⟨tA 1110 (by decide +kernel) rfl, tAp 55 (by decide +kernel), tA 9 (by decide +kernel) rfl⟩
set_option maxRecDepth 100000 in
theorem kc_X8_swapLine : Cond.code yX8_swapLine cX8_swapLine 4 none ∈ wA := tA 1127 (by decide +kernel) rfl
set_option maxRecDepth 100000 in
theorem ki_X8_swapLine : Cond.instanceMethod yX8_swapLine ∈ wA ∧ Cond.selects RX8 yX8_swapLine yX8_swapLine ∈ wA ∧ Cond.initialized RX8 ∈ wA := ⟨tA 1126 (by decide +kernel) rfl, tAp 59 (by decide +kernel), tA 9 (by decide +kernel) rfl⟩
set_option maxRecDepth 100000 in
theorem kc_X8_nextLine : Cond.code yX8_nextLine cX8_nextLine 5 (some .boolean) ∈ wA := tA 1123 (by decide +kernel) rfl
set_option maxRecDepth 100000 in
theorem ki_X8_nextLine : Cond.instanceMethod yX8_nextLine ∈ wA ∧ Cond.selects RX8 yX8_nextLine yX8_nextLine ∈ wA ∧ Cond.initialized RX8 ∈ wA := ⟨tA 1122 (by decide +kernel) rfl, tAp 58 (by decide +kernel), tA 9 (by decide +kernel) rfl⟩
set_option maxRecDepth 100000 in
theorem kc_X8_wrongInLine : Cond.code yX8_wrongInLine cX8_wrongInLine 2 (some .int) ∈ wA := tA 1115 (by decide +kernel) rfl
set_option maxRecDepth 100000 in
theorem ki_X8_wrongInLine : Cond.instanceMethod yX8_wrongInLine ∈ wA ∧ Cond.selects RX8 yX8_wrongInLine yX8_wrongInLine ∈ wA ∧ Cond.initialized RX8 ∈ wA := ⟨tA 1114 (by decide +kernel) rfl, tAp 56 (by decide +kernel), tA 9 (by decide +kernel) rfl⟩
set_option maxRecDepth 100000 in
theorem kc_X8_order : Cond.code yX8_order cX8_order 6 (some .int) ∈ wA := tA 1107 (by decide +kernel) rfl
set_option maxRecDepth 100000 in
theorem ki_X8_order : Cond.instanceMethod yX8_order ∈ wA ∧ Cond.selects RX8 yX8_order yX8_order ∈ wA ∧ Cond.initialized RX8 ∈ wA := ⟨tA 1105 (by decide +kernel) rfl, tA 1106 (by decide +kernel) rfl, tA 9 (by decide +kernel) rfl⟩
set_option maxRecDepth 100000 in
theorem kc_X8_tried : Cond.code yX8_tried cX8_tried 5 (some .int) ∈ wA := tA 1131 (by decide +kernel) rfl
set_option maxRecDepth 100000 in
theorem ki_X8_tried : Cond.instanceMethod yX8_tried ∈ wA ∧ Cond.selects RX8 yX8_tried yX8_tried ∈ wA ∧ Cond.initialized RX8 ∈ wA := ⟨tA 1129 (by decide +kernel) rfl, tA 1130 (by decide +kernel) rfl, tA 9 (by decide +kernel) rfl⟩
set_option maxRecDepth 100000 in
theorem kc_X8_least : Cond.code yX8_least cX8_least 5 (some .int) ∈ wA := tA 1135 (by decide +kernel) rfl
set_option maxRecDepth 100000 in
theorem ki_X8_least : Cond.instanceMethod yX8_least ∈ wA ∧ Cond.selects RX8 yX8_least yX8_least ∈ wA ∧ Cond.initialized RX8 ∈ wA := ⟨tA 1133 (by decide +kernel) rfl, tA 1134 (by decide +kernel) rfl, tA 9 (by decide +kernel) rfl⟩
set_option maxRecDepth 100000 in
theorem kc_X8_noPairs : Cond.code yX8_noPairs cX8_noPairs 5 (some .int) ∈ wA := tA 1143 (by decide +kernel) rfl
set_option maxRecDepth 100000 in
theorem ki_X8_noPairs : Cond.instanceMethod yX8_noPairs ∈ wA ∧ Cond.selects RX8 yX8_noPairs yX8_noPairs ∈ wA ∧ Cond.initialized RX8 ∈ wA := ⟨tA 1142 (by decide +kernel) rfl, tAp 60 (by decide +kernel), tA 9 (by decide +kernel) rfl⟩
set_option maxRecDepth 100000 in
theorem kc_X8_fitting : Cond.code yX8_fitting cX8_fitting 6 (some .int) ∈ wA := tA 1147 (by decide +kernel) rfl
set_option maxRecDepth 100000 in
theorem ki_X8_fitting : Cond.instanceMethod yX8_fitting ∈ wA ∧ Cond.selects RX8 yX8_fitting yX8_fitting ∈ wA ∧ Cond.initialized RX8 ∈ wA := ⟨tA 1146 (by decide +kernel) rfl, tAp 61 (by decide +kernel), tA 9 (by decide +kernel) rfl⟩
set_option maxRecDepth 100000 in
theorem kc_X8_fits : Cond.code yX8_fits cX8_fits 4 (some .int) ∈ wA := tA 1139 (by decide +kernel) rfl
set_option maxRecDepth 100000 in
theorem ki_X8_fits : Cond.instanceMethod yX8_fits ∈ wA ∧ Cond.selects RX8 yX8_fits yX8_fits ∈ wA ∧ Cond.initialized RX8 ∈ wA := ⟨tA 1137 (by decide +kernel) rfl, tA 1138 (by decide +kernel) rfl, tA 9 (by decide +kernel) rfl⟩
set_option maxRecDepth 100000 in
theorem kc_X8_greatestPart : Cond.code yX8_greatestPart cX8_greatestPart 6 (some .int) ∈ wA := tA 1158 (by decide +kernel) rfl
set_option maxRecDepth 100000 in
theorem ki_X8_greatestPart : Cond.instanceMethod yX8_greatestPart ∈ wA ∧ Cond.selects RX8 yX8_greatestPart yX8_greatestPart ∈ wA ∧ Cond.initialized RX8 ∈ wA := ⟨tA 1157 (by decide +kernel) rfl, tAp 62 (by decide +kernel), tA 9 (by decide +kernel) rfl⟩
set_option maxRecDepth 100000 in
theorem kc_X8_ask : Cond.code yX8_ask cX8_ask 6 (some .int) ∈ wA := tA 1154 (by decide +kernel) rfl
set_option maxRecDepth 100000 in
theorem ki_X8_ask : Cond.instanceMethod yX8_ask ∈ wA ∧ Cond.selects RX8 yX8_ask yX8_ask ∈ wA ∧ Cond.initialized RX8 ∈ wA := ⟨tA 1152 (by decide +kernel) rfl, tA 1153 (by decide +kernel) rfl, tA 9 (by decide +kernel) rfl⟩
set_option maxRecDepth 100000 in
theorem kc_X8_isTold : Cond.code yX8_isTold cX8_isTold 7 (some .boolean) ∈ wA := tA 1166 (by decide +kernel) rfl
set_option maxRecDepth 100000 in
theorem ki_X8_isTold : Cond.instanceMethod yX8_isTold ∈ wA ∧ Cond.selects RX8 yX8_isTold yX8_isTold ∈ wA ∧ Cond.initialized RX8 ∈ wA := ⟨tA 1165 (by decide +kernel) rfl, tAp 63 (by decide +kernel), tA 9 (by decide +kernel) rfl⟩
set_option maxRecDepth 100000 in
theorem kc_X8_hands : Cond.code yX8_hands cX8_hands 6 (some .int) ∈ wA := tA 1162 (by decide +kernel) rfl
set_option maxRecDepth 100000 in
theorem ki_X8_hands : Cond.instanceMethod yX8_hands ∈ wA ∧ Cond.selects RX8 yX8_hands yX8_hands ∈ wA ∧ Cond.initialized RX8 ∈ wA := ⟨tA 1160 (by decide +kernel) rfl, tA 1161 (by decide +kernel) rfl, tA 9 (by decide +kernel) rfl⟩
set_option maxRecDepth 100000 in
theorem kc_X8_kinds : Cond.code yX8_kinds cX8_kinds 6 (some .int) ∈ wA := tA 1174 (by decide +kernel) rfl
set_option maxRecDepth 100000 in
theorem ki_X8_kinds : Cond.instanceMethod yX8_kinds ∈ wA ∧ Cond.selects RX8 yX8_kinds yX8_kinds ∈ wA ∧ Cond.initialized RX8 ∈ wA := ⟨tA 1172 (by decide +kernel) rfl, tA 1173 (by decide +kernel) rfl, tA 9 (by decide +kernel) rfl⟩
set_option maxRecDepth 100000 in
theorem kc_X8_foulBy : Cond.code yX8_foulBy cX8_foulBy 4 (some .int) ∈ wA := tA 1183 (by decide +kernel) rfl
set_option maxRecDepth 100000 in
theorem ki_X8_foulBy : Cond.instanceMethod yX8_foulBy ∈ wA ∧ Cond.selects RX8 yX8_foulBy yX8_foulBy ∈ wA ∧ Cond.initialized RX8 ∈ wA := ⟨tA 1182 (by decide +kernel) rfl, tAp 65 (by decide +kernel), tA 9 (by decide +kernel) rfl⟩
set_option maxRecDepth 100000 in
theorem kc_X8_duel : Cond.code yX8_duel cX8_duel 7 (some .int) ∈ wA := tA 1178 (by decide +kernel) rfl
set_option maxRecDepth 100000 in
theorem ki_X8_duel : Cond.instanceMethod yX8_duel ∈ wA ∧ Cond.selects RX8 yX8_duel yX8_duel ∈ wA ∧ Cond.initialized RX8 ∈ wA := ⟨tA 1176 (by decide +kernel) rfl, tA 1177 (by decide +kernel) rfl, tA 9 (by decide +kernel) rfl⟩
set_option maxRecDepth 100000 in
theorem kc_X8_cleanWays : Cond.code yX8_cleanWays cX8_cleanWays 4 (some .int) ∈ wA := tA 1196 (by decide +kernel) rfl
set_option maxRecDepth 100000 in
theorem ki_X8_cleanWays : Cond.instanceMethod yX8_cleanWays ∈ wA ∧ Cond.selects RX8 yX8_cleanWays yX8_cleanWays ∈ wA ∧ Cond.initialized RX8 ∈ wA := ⟨tA 1195 (by decide +kernel) rfl, tAp 67 (by decide +kernel), tA 9 (by decide +kernel) rfl⟩
set_option maxRecDepth 100000 in
theorem kc_X8_isHere : Cond.code yX8_isHere cX8_isHere 2 (some .boolean) ∈ wA := tA 1192 (by decide +kernel) rfl
set_option maxRecDepth 100000 in
theorem ki_X8_isHere : Cond.instanceMethod yX8_isHere ∈ wA ∧ Cond.selects RX8 yX8_isHere yX8_isHere ∈ wA ∧ Cond.initialized RX8 ∈ wA := ⟨tA 1191 (by decide +kernel) rfl, tAp 66 (by decide +kernel), tA 9 (by decide +kernel) rfl⟩
set_option maxRecDepth 100000 in
theorem kc_X8_odds : Cond.code yX8_odds cX8_odds 7 (some .int) ∈ wA := tA 1187 (by decide +kernel) rfl
set_option maxRecDepth 100000 in
theorem ki_X8_odds : Cond.instanceMethod yX8_odds ∈ wA ∧ Cond.selects RX8 yX8_odds yX8_odds ∈ wA ∧ Cond.initialized RX8 ∈ wA := ⟨tA 1185 (by decide +kernel) rfl, tA 1186 (by decide +kernel) rfl, tA 9 (by decide +kernel) rfl⟩
set_option maxRecDepth 100000 in
theorem kc_X8_mid : Cond.code yX8_mid cX8_mid 5 (some .int) ∈ wA := tA 1200 (by decide +kernel) rfl
set_option maxRecDepth 100000 in
theorem ki_X8_mid : Cond.instanceMethod yX8_mid ∈ wA ∧ Cond.selects RX8 yX8_mid yX8_mid ∈ wA ∧ Cond.initialized RX8 ∈ wA := ⟨tA 1198 (by decide +kernel) rfl, tA 1199 (by decide +kernel) rfl, tA 9 (by decide +kernel) rfl⟩
set_option maxRecDepth 100000 in
theorem kc_X8_lots : Cond.code yX8_lots cX8_lots 8 (some .int) ∈ wA := tA 1204 (by decide +kernel) rfl
set_option maxRecDepth 100000 in
theorem ki_X8_lots : Cond.instanceMethod yX8_lots ∈ wA ∧ Cond.selects RX8 yX8_lots yX8_lots ∈ wA ∧ Cond.initialized RX8 ∈ wA := ⟨tA 1202 (by decide +kernel) rfl, tA 1203 (by decide +kernel) rfl, tA 9 (by decide +kernel) rfl⟩
set_option maxRecDepth 100000 in
theorem kc_X8_asked : Cond.code yX8_asked cX8_asked 1 (some .int) ∈ wA := tA 1213 (by decide +kernel) rfl
set_option maxRecDepth 100000 in
theorem ki_X8_asked : Cond.instanceMethod yX8_asked ∈ wA ∧ Cond.selects RX8 yX8_asked yX8_asked ∈ wA ∧ Cond.initialized RX8 ∈ wA := ⟨tA 1211 (by decide +kernel) rfl, tA 1212 (by decide +kernel) rfl, tA 9 (by decide +kernel) rfl⟩
set_option maxRecDepth 100000 in
theorem kc_X8_upper : Cond.code yX8_upper cX8_upper 1 (some .long) ∈ wA := tA 1217 (by decide +kernel) rfl
set_option maxRecDepth 100000 in
theorem ki_X8_upper : Cond.instanceMethod yX8_upper ∈ wA ∧ Cond.selects RX8 yX8_upper yX8_upper ∈ wA ∧ Cond.initialized RX8 ∈ wA := ⟨tA 1215 (by decide +kernel) rfl, tA 1216 (by decide +kernel) rfl, tA 9 (by decide +kernel) rfl⟩
set_option maxRecDepth 100000 in
theorem kc_X8_lower : Cond.code yX8_lower cX8_lower 1 (some .long) ∈ wA := tA 1221 (by decide +kernel) rfl
set_option maxRecDepth 100000 in
theorem ki_X8_lower : Cond.instanceMethod yX8_lower ∈ wA ∧ Cond.selects RX8 yX8_lower yX8_lower ∈ wA ∧ Cond.initialized RX8 ∈ wA := ⟨tA 1219 (by decide +kernel) rfl, tA 1220 (by decide +kernel) rfl, tA 9 (by decide +kernel) rfl⟩
set_option maxRecDepth 100000 in
theorem kc_X8_sumOf : Cond.code yX8_sumOf cX8_sumOf 4 (some .int) ∈ wA := tA 1234 (by decide +kernel) rfl
set_option maxRecDepth 100000 in
theorem ki_X8_sumOf : Cond.instanceMethod yX8_sumOf ∈ wA ∧ Cond.selects RX8 yX8_sumOf yX8_sumOf ∈ wA ∧ Cond.initialized RX8 ∈ wA := ⟨tA 1233 (by decide +kernel) rfl, tAp 69 (by decide +kernel), tA 9 (by decide +kernel) rfl⟩
set_option maxRecDepth 100000 in
theorem kc_X8_thereOf : Cond.code yX8_thereOf cX8_thereOf 4 (some .int) ∈ wA := tA 1238 (by decide +kernel) rfl
set_option maxRecDepth 100000 in
theorem ki_X8_thereOf : Cond.instanceMethod yX8_thereOf ∈ wA ∧ Cond.selects RX8 yX8_thereOf yX8_thereOf ∈ wA ∧ Cond.initialized RX8 ∈ wA := ⟨tA 1237 (by decide +kernel) rfl, tAp 70 (by decide +kernel), tA 9 (by decide +kernel) rfl⟩
set_option maxRecDepth 100000 in
theorem kc_X8_countOf : Cond.code yX8_countOf cX8_countOf 2 (some .int) ∈ wA := tA 1230 (by decide +kernel) rfl
set_option maxRecDepth 100000 in
theorem ki_X8_countOf : Cond.instanceMethod yX8_countOf ∈ wA ∧ Cond.selects RX8 yX8_countOf yX8_countOf ∈ wA ∧ Cond.initialized RX8 ∈ wA := ⟨tA 1229 (by decide +kernel) rfl, tAp 68 (by decide +kernel), tA 9 (by decide +kernel) rfl⟩
set_option maxRecDepth 100000 in
theorem kc_X8_count : Cond.code yX8_count cX8_count 2 (some .int) ∈ wA := tA 1225 (by decide +kernel) rfl
set_option maxRecDepth 100000 in
theorem ki_X8_count : Cond.instanceMethod yX8_count ∈ wA ∧ Cond.selects RX8 yX8_count yX8_count ∈ wA ∧ Cond.initialized RX8 ∈ wA := ⟨tA 1223 (by decide +kernel) rfl, tA 1224 (by decide +kernel) rfl, tA 9 (by decide +kernel) rfl⟩
set_option maxRecDepth 100000 in
theorem kc_X8_finding : Cond.code yX8_finding cX8_finding 1 (some .int) ∈ wA := tA 1242 (by decide +kernel) rfl
set_option maxRecDepth 100000 in
theorem ki_X8_finding : Cond.instanceMethod yX8_finding ∈ wA ∧ Cond.selects RX8 yX8_finding yX8_finding ∈ wA ∧ Cond.initialized RX8 ∈ wA := ⟨tA 1240 (by decide +kernel) rfl, tA 1241 (by decide +kernel) rfl, tA 9 (by decide +kernel) rfl⟩
set_option maxRecDepth 100000 in
theorem kc_X8_findings : Cond.code yX8_findings cX8_findings 2 (some .int) ∈ wA := tA 1246 (by decide +kernel) rfl
set_option maxRecDepth 100000 in
theorem ki_X8_findings : Cond.instanceMethod yX8_findings ∈ wA ∧ Cond.selects RX8 yX8_findings yX8_findings ∈ wA ∧ Cond.initialized RX8 ∈ wA := ⟨tA 1244 (by decide +kernel) rfl, tA 1245 (by decide +kernel) rfl, tA 9 (by decide +kernel) rfl⟩
set_option maxRecDepth 100000 in
theorem kc_X8_digest : Cond.code yX8_digest cX8_digest 5 (some .long) ∈ wA := tA 1250 (by decide +kernel) rfl
set_option maxRecDepth 100000 in
theorem ki_X8_digest : Cond.instanceMethod yX8_digest ∈ wA ∧ Cond.selects RX8 yX8_digest yX8_digest ∈ wA ∧ Cond.initialized RX8 ∈ wA := ⟨tA 1248 (by decide +kernel) rfl, tA 1249 (by decide +kernel) rfl, tA 9 (by decide +kernel) rfl⟩
set_option maxRecDepth 100000 in
theorem kc_J6_bitCount_0f7a4 : Cond.code yJ6_bitCount_0f7a4 cJ6_bitCount_0f7a4 1 (some .int) ∈ wA := tA 561 (by decide +kernel) rfl
set_option maxRecDepth 100000 in
theorem ki_J6_bitCount_0f7a4 : Cond.static yJ6_bitCount_0f7a4 ∈ wA ∧ Cond.initialized RJ6 ∈ wA := ⟨tA 560 (by decide +kernel) rfl, tA 12 (by decide +kernel) rfl⟩
