def wA : List Cond := lw_tbl.filter goodWord
def isNest : Cond → Bool
  | .methodLinkNest _ _ _ _ => true
  | .fieldLinkNest _ _ _ _ _ _ => true
  | _ => false
def wN : List Cond := lw_tbl.filter isNest
theorem wA_good {w : Cond} (h : w ∈ wA) : w ∈ wA ∧ ((w.onTables && w.keeps) = true ∨ ∃ ty, w = .arrayClass ty) := ⟨h, good_of_word (List.mem_filter.mp h).2⟩
theorem wA_in {w : Cond} (h : w ∈ wA) : w ∈ lw_tbl := (List.mem_filter.mp h).1
theorem wN_in {w : Cond} (h : w ∈ wN) : w ∈ lw_tbl := (List.mem_filter.mp h).1
theorem wG {y : MethodName} {c : ByteArray} {n : Nat} {r : Option FieldType} (h : Cond.code y c n r ∈ wA) : GoodIn wA (Cond.code y c n r :: wA) := fun w hw => by
  rcases List.mem_cons.mp hw with e | e
  · rw [e]; exact wA_good h
  · exact wA_good e
theorem tA (i : Nat) {w : Cond} (h : tables_1[i]? = some w) (hg : goodWord w = true) : w ∈ wA := List.mem_filter.mpr ⟨List.mem_append_right _ (List.mem_of_getElem? h), hg⟩
theorem tN (i : Nat) {w : Cond} (h : tables_1[i]? = some w) (hg : isNest w = true) : w ∈ wN := List.mem_filter.mpr ⟨List.mem_append_right _ (List.mem_of_getElem? h), hg⟩
theorem tAp (i : Nat) {C : String} {x y : MethodName} (h : (k2_sels lw_privs)[i]? = some (Cond.selects C x y)) : Cond.selects C x y ∈ wA := List.mem_filter.mpr ⟨List.mem_append_left _ (List.mem_of_getElem? h), rfl⟩
theorem wMem (ws : List Cond) (ps : List Nat) (h : ws = ps.filterMap (fun i => tables_1[i]?)) (hg : ws.all goodWord = true) : ∀ w ∈ ws, w ∈ wA := by
  intro w hw
  have hg1 := List.all_eq_true.mp hg w hw
  rw [h] at hw
  obtain ⟨i, -, hi⟩ := List.mem_filterMap.mp hw
  exact tA i hi hg1
/-- what the tables say of nest mates, at a state -/
def gNs (U : State) : Prop := ∀ w ∈ wN, va_Nw w U
theorem gNs_warm {s U : State} (hW : s.WarmedH U.vm) (h : gNs s) : gNs U := by
  intro w hw
  have h1 := h w hw
  have h2 := (List.mem_filter.mp hw).2
  cases w <;> first | (exact va_Nw.warmF hW h1) | (exact va_Nw.warmM hW h1) | (exact absurd h2 (by simp [isNest]))
theorem gNs_vm {u U : State} (hvm : u.vm = U.vm) (h : gNs u) : gNs U := by
  intro w hw
  have h1 := h w hw
  have h2 := (List.mem_filter.mp hw).2
  cases w <;> first | (exact va_Nw.same rfl hvm h1) | (exact absurd h2 (by simp [isNest]))
set_option maxRecDepth 100000 in
theorem lA0 : ∀ w ∈ u_ws RX0 TX0 9, w ∈ wA := wMem _ [129, 131, 133, 135, 137, 139, 141, 143, 145] (by decide +kernel) (by decide +kernel)
set_option maxRecDepth 100000 in
theorem lA1 : ∀ w ∈ u_ws RX1 TX1 3, w ∈ wA := wMem _ [105, 107, 109] (by decide +kernel) (by decide +kernel)
set_option maxRecDepth 100000 in
theorem lA2 : ∀ w ∈ u_ws RX2 TX2 2, w ∈ wA := wMem _ [171, 173] (by decide +kernel) (by decide +kernel)
set_option maxRecDepth 100000 in
theorem lA3 : ∀ w ∈ u_ws RX3 TX3 7, w ∈ wA := wMem _ [77, 79, 81, 83, 85, 87, 89] (by decide +kernel) (by decide +kernel)
set_option maxRecDepth 100000 in
theorem lA4 : ∀ w ∈ u_ws RX4 TX4 2, w ∈ wA := wMem _ [158, 160] (by decide +kernel) (by decide +kernel)
set_option maxRecDepth 100000 in
theorem lA5 : ∀ w ∈ u_ws RX5 TX5 4, w ∈ wA := wMem _ [34, 36, 38, 40] (by decide +kernel) (by decide +kernel)
set_option maxRecDepth 100000 in
theorem lA6 : ∀ w ∈ u_ws RX6 TX6 2, w ∈ wA := wMem _ [191, 193] (by decide +kernel) (by decide +kernel)
set_option maxRecDepth 100000 in
theorem lA7 : ∀ w ∈ u_ws RX7 TX7 12, w ∈ wA := wMem _ [209, 211, 213, 215, 217, 219, 221, 223, 225, 227, 229, 231] (by decide +kernel) (by decide +kernel)
set_option maxRecDepth 100000 in
theorem fk_X7_11 : Cond.fieldLink RX7 11 "ThirdDay" "rows" "[LThirdDay$Row;" ∈ wA := tA 197 (by decide +kernel) rfl
set_option maxRecDepth 100000 in
theorem fk_X7_15 : Cond.fieldLink RX7 15 "ThirdDay" "texts" "[LThirdDay$Row;" ∈ wA := tA 198 (by decide +kernel) rfl
set_option maxRecDepth 100000 in
theorem fk_X7_21 : Cond.fieldLink RX7 21 "ThirdDay" "reader" "LThirdDay$Reader;" ∈ wA := tA 199 (by decide +kernel) rfl
set_option maxRecDepth 100000 in
theorem fk_X7_28 : Cond.fieldLink RX7 28 "ThirdDay" "court" "LThirdDay$Court;" ∈ wA := tA 200 (by decide +kernel) rfl
set_option maxRecDepth 100000 in
theorem fk_X7_34 : Cond.fieldLink RX7 34 "ThirdDay" "kept" "[LThirdDay$Deeds;" ∈ wA := tA 201 (by decide +kernel) rfl
set_option maxRecDepth 100000 in
theorem fk_X7_41 : Cond.fieldLink RX7 41 "ThirdDay" "orders" "LThirdDay$Orders;" ∈ wA := tA 202 (by decide +kernel) rfl
set_option maxRecDepth 100000 in
theorem fk_X7_48 : Cond.fieldLink RX7 48 "ThirdDay" "turns" "LThirdDay$Duel;" ∈ wA := tA 203 (by decide +kernel) rfl
set_option maxRecDepth 100000 in
theorem fk_X7_52 : Cond.fieldLink RX7 52 "ThirdDay" "findingCounts" "[I" ∈ wA := tA 204 (by decide +kernel) rfl
set_option maxRecDepth 100000 in
theorem fk_X7_56 : Cond.fieldLink RX7 56 "ThirdDay" "lowerTold" "J" ∈ wA := tA 208 (by decide +kernel) rfl
set_option maxRecDepth 100000 in
theorem fk_X7_72 : Cond.fieldLinkNest RX7 72 "ThirdDay$Row" "places" "[I" "ThirdDay" ∈ wN := tN 184 (by decide +kernel) rfl
set_option maxRecDepth 100000 in
theorem fk_X7_75 : Cond.fieldLink RX7 75 "ThirdDay" "told" "I" ∈ wA := tA 206 (by decide +kernel) rfl
set_option maxRecDepth 100000 in
theorem fk_X7_83 : Cond.fieldLinkNest RX7 83 "ThirdDay$Row" "size" "I" "ThirdDay" ∈ wN := tN 189 (by decide +kernel) rfl
set_option maxRecDepth 100000 in
theorem fk_X7_120 : Cond.fieldLinkNest RX7 120 "ThirdDay$Deeds" "size" "I" "ThirdDay" ∈ wN := tN 104 (by decide +kernel) rfl
set_option maxRecDepth 100000 in
theorem fk_X7_121 : Cond.fieldLinkNest RX7 121 "ThirdDay$Court" "size" "I" "ThirdDay" ∈ wN := tN 120 (by decide +kernel) rfl
set_option maxRecDepth 100000 in
theorem fk_X7_126 : Cond.fieldLinkNest RX7 126 "ThirdDay$Court" "men" "[LThirdDay$Man;" "ThirdDay" ∈ wN := tN 114 (by decide +kernel) rfl
set_option maxRecDepth 100000 in
theorem fk_X7_151 : Cond.fieldLinkNest RX7 151 "ThirdDay$Court" "heat" "I" "ThirdDay" ∈ wN := tN 128 (by decide +kernel) rfl
set_option maxRecDepth 100000 in
theorem fk_X7_166 : Cond.fieldLinkNest RX7 166 "ThirdDay$Court" "deeds" "LThirdDay$Deeds;" "ThirdDay" ∈ wN := tN 117 (by decide +kernel) rfl
set_option maxRecDepth 100000 in
theorem fk_X7_177 : Cond.fieldLinkNest RX7 177 "ThirdDay$Man" "salve" "I" "ThirdDay" ∈ wN := tN 70 (by decide +kernel) rfl
set_option maxRecDepth 100000 in
theorem fk_X7_183 : Cond.fieldLinkNest RX7 183 "ThirdDay$Man" "wronged" "Z" "ThirdDay" ∈ wN := tN 76 (by decide +kernel) rfl
set_option maxRecDepth 100000 in
theorem fk_X7_187 : Cond.fieldLinkNest RX7 187 "ThirdDay$Man" "verdict" "I" "ThirdDay" ∈ wN := tN 73 (by decide +kernel) rfl
set_option maxRecDepth 100000 in
theorem fk_X7_214 : Cond.fieldLinkNest RX7 214 "ThirdDay$Man" "guilt" "I" "ThirdDay" ∈ wN := tN 62 (by decide +kernel) rfl
set_option maxRecDepth 100000 in
theorem fk_X7_268 : Cond.fieldLinkNest RX7 268 "ThirdDay$Man" "hand" "I" "ThirdDay" ∈ wN := tN 67 (by decide +kernel) rfl
set_option maxRecDepth 100000 in
theorem fk_X7_275 : Cond.fieldLinkNest RX7 275 "ThirdDay$Man" "kind" "I" "ThirdDay" ∈ wN := tN 59 (by decide +kernel) rfl
set_option maxRecDepth 100000 in
theorem fk_X7_308 : Cond.fieldLink RX7 308 "ThirdDay" "upperTold" "J" ∈ wA := tA 207 (by decide +kernel) rfl
set_option maxRecDepth 100000 in
theorem fk_X7_327 : Cond.fieldLink RX7 327 "ThirdDay" "latestFinding" "I" ∈ wA := tA 205 (by decide +kernel) rfl
set_option maxRecDepth 100000 in
theorem fk_X0_11 : Cond.fieldLink RX0 11 "ThirdDay$Court" "men" "[LThirdDay$Man;" ∈ wA := tA 112 (by decide +kernel) rfl
set_option maxRecDepth 100000 in
theorem fk_X0_18 : Cond.fieldLink RX0 18 "ThirdDay$Court" "supposed" "LThirdDay$Man;" ∈ wA := tA 115 (by decide +kernel) rfl
set_option maxRecDepth 100000 in
theorem fk_X0_27 : Cond.fieldLink RX0 27 "ThirdDay$Court" "deeds" "LThirdDay$Deeds;" ∈ wA := tA 116 (by decide +kernel) rfl
set_option maxRecDepth 100000 in
theorem fk_X0_31 : Cond.fieldLink RX0 31 "ThirdDay$Court" "heat" "I" ∈ wA := tA 125 (by decide +kernel) rfl
set_option maxRecDepth 100000 in
theorem fk_X0_35 : Cond.fieldLinkNest RX0 35 "ThirdDay$Reader" "numbers" "[I" "ThirdDay" ∈ wN := tN 29 (by decide +kernel) rfl
set_option maxRecDepth 100000 in
theorem fk_X0_41 : Cond.fieldLink RX0 41 "ThirdDay$Court" "pounds" "I" ∈ wA := tA 121 (by decide +kernel) rfl
set_option maxRecDepth 100000 in
theorem fk_X0_44 : Cond.fieldLink RX0 44 "ThirdDay$Court" "mercy" "I" ∈ wA := tA 122 (by decide +kernel) rfl
set_option maxRecDepth 100000 in
theorem fk_X0_47 : Cond.fieldLink RX0 47 "ThirdDay$Court" "heals" "I" ∈ wA := tA 123 (by decide +kernel) rfl
set_option maxRecDepth 100000 in
theorem fk_X0_50 : Cond.fieldLink RX0 50 "ThirdDay$Court" "king" "I" ∈ wA := tA 124 (by decide +kernel) rfl
set_option maxRecDepth 100000 in
theorem fk_X0_53 : Cond.fieldLinkNest RX0 53 "ThirdDay$Reader" "men" "I" "ThirdDay" ∈ wN := tN 32 (by decide +kernel) rfl
set_option maxRecDepth 100000 in
theorem fk_X0_55 : Cond.fieldLink RX0 55 "ThirdDay$Court" "size" "I" ∈ wA := tA 119 (by decide +kernel) rfl
set_option maxRecDepth 100000 in
theorem fk_X0_62 : Cond.fieldLinkNest RX0 62 "ThirdDay$Deeds" "size" "I" "ThirdDay" ∈ wN := tN 103 (by decide +kernel) rfl
set_option maxRecDepth 100000 in
theorem fk_X0_66 : Cond.fieldLinkNest RX0 66 "ThirdDay$Man" "kind" "I" "ThirdDay" ∈ wN := tN 58 (by decide +kernel) rfl
set_option maxRecDepth 100000 in
theorem fk_X0_69 : Cond.fieldLinkNest RX0 69 "ThirdDay$Man" "guilt" "I" "ThirdDay" ∈ wN := tN 61 (by decide +kernel) rfl
set_option maxRecDepth 100000 in
theorem fk_X0_72 : Cond.fieldLinkNest RX0 72 "ThirdDay$Man" "belief" "I" "ThirdDay" ∈ wN := tN 64 (by decide +kernel) rfl
set_option maxRecDepth 100000 in
theorem fk_X0_90 : Cond.fieldLinkNest RX0 90 "ThirdDay$Man" "salve" "I" "ThirdDay" ∈ wN := tN 69 (by decide +kernel) rfl
set_option maxRecDepth 100000 in
theorem fk_X0_93 : Cond.fieldLinkNest RX0 93 "ThirdDay$Man" "verdict" "I" "ThirdDay" ∈ wN := tN 72 (by decide +kernel) rfl
set_option maxRecDepth 100000 in
theorem fk_X0_106 : Cond.fieldLinkNest RX0 106 "ThirdDay$Deeds" "whats" "[I" "ThirdDay" ∈ wN := tN 99 (by decide +kernel) rfl
set_option maxRecDepth 100000 in
theorem fk_X0_109 : Cond.fieldLinkNest RX0 109 "ThirdDay$Deeds" "hows" "[I" "ThirdDay" ∈ wN := tN 101 (by decide +kernel) rfl
set_option maxRecDepth 100000 in
theorem fk_X0_121 : Cond.fieldLinkNest RX0 121 "ThirdDay$Man" "wronged" "Z" "ThirdDay" ∈ wN := tN 75 (by decide +kernel) rfl
set_option maxRecDepth 100000 in
theorem fk_X0_148 : Cond.fieldLinkNest RX0 148 "ThirdDay$Man" "hand" "I" "ThirdDay" ∈ wN := tN 66 (by decide +kernel) rfl
set_option maxRecDepth 100000 in
theorem fk_X0_155 : Cond.fieldLinkNest RX0 155 "ThirdDay$Row" "size" "I" "ThirdDay" ∈ wN := tN 190 (by decide +kernel) rfl
set_option maxRecDepth 100000 in
theorem fk_X0_158 : Cond.fieldLinkNest RX0 158 "ThirdDay$Row" "places" "[I" "ThirdDay" ∈ wN := tN 185 (by decide +kernel) rfl
set_option maxRecDepth 100000 in
theorem fk_X1_9 : Cond.fieldLink RX1 9 "ThirdDay$Deeds" "whats" "[I" ∈ wA := tA 98 (by decide +kernel) rfl
set_option maxRecDepth 100000 in
theorem fk_X1_15 : Cond.fieldLink RX1 15 "ThirdDay$Deeds" "hows" "[I" ∈ wA := tA 100 (by decide +kernel) rfl
set_option maxRecDepth 100000 in
theorem fk_X1_18 : Cond.fieldLink RX1 18 "ThirdDay$Deeds" "size" "I" ∈ wA := tA 102 (by decide +kernel) rfl
set_option maxRecDepth 100000 in
theorem fk_X2_9 : Cond.fieldLink RX2 9 "ThirdDay$Duel" "worth" "[I" ∈ wA := tA 169 (by decide +kernel) rfl
set_option maxRecDepth 100000 in
theorem fk_X2_15 : Cond.fieldLink RX2 15 "ThirdDay$Duel" "worthAhead" "[I" ∈ wA := tA 170 (by decide +kernel) rfl
set_option maxRecDepth 100000 in
theorem fk_X2_28 : Cond.fieldLinkNest RX2 28 "ThirdDay$Court" "heat" "I" "ThirdDay" ∈ wN := tN 127 (by decide +kernel) rfl
set_option maxRecDepth 100000 in
theorem fk_X3_9 : Cond.fieldLink RX3 9 "ThirdDay$Man" "verdict" "I" ∈ wA := tA 71 (by decide +kernel) rfl
set_option maxRecDepth 100000 in
theorem fk_X3_15 : Cond.fieldLink RX3 15 "ThirdDay$Man" "kind" "I" ∈ wA := tA 57 (by decide +kernel) rfl
set_option maxRecDepth 100000 in
theorem fk_X3_18 : Cond.fieldLink RX3 18 "ThirdDay$Man" "guilt" "I" ∈ wA := tA 60 (by decide +kernel) rfl
set_option maxRecDepth 100000 in
theorem fk_X3_21 : Cond.fieldLink RX3 21 "ThirdDay$Man" "belief" "I" ∈ wA := tA 63 (by decide +kernel) rfl
set_option maxRecDepth 100000 in
theorem fk_X3_24 : Cond.fieldLink RX3 24 "ThirdDay$Man" "hand" "I" ∈ wA := tA 65 (by decide +kernel) rfl
set_option maxRecDepth 100000 in
theorem fk_X3_27 : Cond.fieldLink RX3 27 "ThirdDay$Man" "salve" "I" ∈ wA := tA 68 (by decide +kernel) rfl
set_option maxRecDepth 100000 in
theorem fk_X3_30 : Cond.fieldLink RX3 30 "ThirdDay$Man" "wronged" "Z" ∈ wA := tA 74 (by decide +kernel) rfl
set_option maxRecDepth 100000 in
theorem fk_X4_9 : Cond.fieldLink RX4 9 "ThirdDay$Orders" "path" "[I" ∈ wA := tA 156 (by decide +kernel) rfl
set_option maxRecDepth 100000 in
theorem fk_X4_15 : Cond.fieldLinkNest RX4 15 "ThirdDay$Court" "size" "I" "ThirdDay" ∈ wN := tN 118 (by decide +kernel) rfl
set_option maxRecDepth 100000 in
theorem fk_X4_37 : Cond.fieldLink RX4 37 "ThirdDay$Orders" "fewest" "I" ∈ wA := tA 157 (by decide +kernel) rfl
set_option maxRecDepth 100000 in
theorem fk_X4_43 : Cond.fieldLinkNest RX4 43 "ThirdDay$Court" "heat" "I" "ThirdDay" ∈ wN := tN 126 (by decide +kernel) rfl
set_option maxRecDepth 100000 in
theorem fk_X4_50 : Cond.fieldLinkNest RX4 50 "ThirdDay$Row" "places" "[I" "ThirdDay" ∈ wN := tN 183 (by decide +kernel) rfl
set_option maxRecDepth 100000 in
theorem fk_X4_53 : Cond.fieldLinkNest RX4 53 "ThirdDay$Row" "size" "I" "ThirdDay" ∈ wN := tN 188 (by decide +kernel) rfl
set_option maxRecDepth 100000 in
theorem fk_X4_60 : Cond.fieldLinkNest RX4 60 "ThirdDay$Court" "men" "[LThirdDay$Man;" "ThirdDay" ∈ wN := tN 113 (by decide +kernel) rfl
set_option maxRecDepth 100000 in
theorem fk_X5_11 : Cond.fieldLink RX5 11 "ThirdDay$Reader" "numbers" "[I" ∈ wA := tA 28 (by decide +kernel) rfl
set_option maxRecDepth 100000 in
theorem fk_X5_15 : Cond.fieldLink RX5 15 "ThirdDay$Reader" "taken" "I" ∈ wA := tA 30 (by decide +kernel) rfl
set_option maxRecDepth 100000 in
theorem fk_X5_19 : Cond.fieldLink RX5 19 "ThirdDay$Reader" "men" "I" ∈ wA := tA 31 (by decide +kernel) rfl
set_option maxRecDepth 100000 in
theorem fk_X5_22 : Cond.fieldLink RX5 22 "ThirdDay$Reader" "place" "I" ∈ wA := tA 33 (by decide +kernel) rfl
set_option maxRecDepth 100000 in
theorem fk_X5_33 : Cond.fieldLinkNest RX5 33 "ThirdDay$Row" "size" "I" "ThirdDay" ∈ wN := tN 187 (by decide +kernel) rfl
set_option maxRecDepth 100000 in
theorem fk_X5_41 : Cond.fieldLinkNest RX5 41 "ThirdDay$Row" "places" "[I" "ThirdDay" ∈ wN := tN 182 (by decide +kernel) rfl
set_option maxRecDepth 100000 in
theorem fk_X6_9 : Cond.fieldLink RX6 9 "ThirdDay$Row" "size" "I" ∈ wA := tA 186 (by decide +kernel) rfl
set_option maxRecDepth 100000 in
theorem fk_X6_15 : Cond.fieldLink RX6 15 "ThirdDay$Row" "places" "[I" ∈ wA := tA 181 (by decide +kernel) rfl
set_option maxRecDepth 100000 in
theorem mk_X7_20 : Cond.methodLinkNest RX7 20 yX5_init "ThirdDay" ∈ wN := tN 24 (by decide +kernel) rfl
set_option maxRecDepth 100000 in
theorem mk_X7_27 : Cond.methodLink RX7 27 yX0_init ∈ wA := tA 46 (by decide +kernel) rfl
set_option maxRecDepth 100000 in
theorem mk_X7_40 : Cond.methodLinkNest RX7 40 yX4_init "ThirdDay" ∈ wN := tN 152 (by decide +kernel) rfl
set_option maxRecDepth 100000 in
theorem mk_X7_47 : Cond.methodLinkNest RX7 47 yX2_init "ThirdDay" ∈ wN := tN 165 (by decide +kernel) rfl
set_option maxRecDepth 100000 in
theorem mk_X7_60 : Cond.methodLink RX7 60 yX6_init ∈ wA := tA 177 (by decide +kernel) rfl
set_option maxRecDepth 100000 in
theorem mk_X7_63 : Cond.methodLink RX7 63 yX1_init ∈ wA := tA 196 (by decide +kernel) rfl
set_option maxRecDepth 100000 in
theorem mk_X7_64 : Cond.methodLink RX7 64 yX7_laidOut ∈ wA := tA 238 (by decide +kernel) rfl
set_option maxRecDepth 100000 in
theorem mk_X7_68 : Cond.methodLink RX7 68 yX7_placeRefusal ∈ wA := tA 257 (by decide +kernel) rfl
set_option maxRecDepth 100000 in
theorem mk_X7_79 : Cond.methodLink RX7 79 yX7_missingRefusal ∈ wA := tA 261 (by decide +kernel) rfl
set_option maxRecDepth 100000 in
theorem mk_X7_86 : Cond.methodLink RX7 86 yX7_isOneOf ∈ wA := tA 242 (by decide +kernel) rfl
set_option maxRecDepth 100000 in
theorem mk_X7_90 : Cond.methodLink RX7 90 yX7_found ∈ wA := tA 245 (by decide +kernel) rfl
set_option maxRecDepth 100000 in
theorem mk_X7_94 : Cond.methodLink RX7 94 yX6_isMissing ∈ wA := tA 265 (by decide +kernel) rfl
set_option maxRecDepth 100000 in
theorem mk_X7_112 : Cond.methodLink RX7 112 yX5_read ∈ wA := tA 281 (by decide +kernel) rfl
set_option maxRecDepth 100000 in
theorem mk_X7_116 : Cond.methodLink RX7 116 yX0_assemble ∈ wA := tA 308 (by decide +kernel) rfl
set_option maxRecDepth 100000 in
theorem mk_X7_122 : Cond.methodLink RX7 122 yX7_isMan ∈ wA := tA 398 (by decide +kernel) rfl
set_option maxRecDepth 100000 in
theorem mk_X7_130 : Cond.methodLink RX7 130 yX0_detail ∈ wA := tA 678 (by decide +kernel) rfl
set_option maxRecDepth 100000 in
theorem mk_X7_170 : Cond.methodLink RX7 170 yX1_hasRoomFor ∈ wA := tA 381 (by decide +kernel) rfl
set_option maxRecDepth 100000 in
theorem mk_X7_173 : Cond.methodLink RX7 173 yX0_perform ∈ wA := tA 385 (by decide +kernel) rfl
set_option maxRecDepth 100000 in
theorem mk_X7_180 : Cond.methodLink RX7 180 yX3_isTried ∈ wA := tA 402 (by decide +kernel) rfl
set_option maxRecDepth 100000 in
theorem mk_X7_190 : Cond.methodLink RX7 190 yX0_actAgain ∈ wA := tA 414 (by decide +kernel) rfl
set_option maxRecDepth 100000 in
theorem mk_X7_193 : Cond.methodLink RX7 193 yX7_isKeptPlace ∈ wA := tA 419 (by decide +kernel) rfl
set_option maxRecDepth 100000 in
theorem mk_X7_196 : Cond.methodLink RX7 196 yX1_become ∈ wA := tA 422 (by decide +kernel) rfl
set_option maxRecDepth 100000 in
theorem mk_X7_200 : Cond.methodLink RX7 200 yX0_verdict ∈ wA := tA 434 (by decide +kernel) rfl
set_option maxRecDepth 100000 in
theorem mk_X7_202 : Cond.methodLink RX7 202 yX7_heatRefusal ∈ wA := tA 439 (by decide +kernel) rfl
set_option maxRecDepth 100000 in
theorem mk_X7_205 : Cond.methodLink RX7 205 yX0_guiltyWrongly ∈ wA := tA 443 (by decide +kernel) rfl
set_option maxRecDepth 100000 in
theorem mk_X7_208 : Cond.methodLink RX7 208 yX0_allWrongly ∈ wA := tA 452 (by decide +kernel) rfl
set_option maxRecDepth 100000 in
theorem mk_X7_211 : Cond.methodLink RX7 211 yX0_heatsTelling ∈ wA := tA 464 (by decide +kernel) rfl
set_option maxRecDepth 100000 in
theorem mk_X7_217 : Cond.methodLink RX7 217 yX7_tellFraction ∈ wA := tA 472 (by decide +kernel) rfl
set_option maxRecDepth 100000 in
theorem mk_X7_221 : Cond.methodLink RX7 221 yX7_rowRefusal ∈ wA := tA 483 (by decide +kernel) rfl
set_option maxRecDepth 100000 in
theorem mk_X7_224 : Cond.methodLink RX7 224 yX4_layBest ∈ wA := tA 487 (by decide +kernel) rfl
set_option maxRecDepth 100000 in
theorem mk_X7_228 : Cond.methodLink RX7 228 yX7_orderFinding ∈ wA := tA 517 (by decide +kernel) rfl
set_option maxRecDepth 100000 in
theorem mk_X7_231 : Cond.methodLink RX7 231 yX0_toldClean ∈ wA := tA 522 (by decide +kernel) rfl
set_option maxRecDepth 100000 in
theorem mk_X7_234 : Cond.methodLink RX7 234 yX3_wrongedBy ∈ wA := tA 523 (by decide +kernel) rfl
set_option maxRecDepth 100000 in
theorem mk_X7_237 : Cond.methodLink RX7 237 yX0_heatBehind ∈ wA := tA 524 (by decide +kernel) rfl
set_option maxRecDepth 100000 in
theorem mk_X7_241 : Cond.methodLink RX7 241 yX0_mustBeCleared ∈ wA := tA 529 (by decide +kernel) rfl
set_option maxRecDepth 100000 in
theorem mk_X7_245 : Cond.methodLink RX7 245 yX0_salveNeeded ∈ wA := tA 533 (by decide +kernel) rfl
set_option maxRecDepth 100000 in
theorem mk_X7_248 : Cond.methodLink RX7 248 yX7_trialsRefusal ∈ wA := tA 541 (by decide +kernel) rfl
set_option maxRecDepth 100000 in
theorem mk_X7_251 : Cond.methodLink RX7 251 yX0_heatsFitting ∈ wA := tA 548 (by decide +kernel) rfl
set_option maxRecDepth 100000 in
theorem mk_X7_254 : Cond.methodLink RX7 254 yJ6_bitCount_0f7a4 ∈ wA := tA 554 (by decide +kernel) rfl
set_option maxRecDepth 100000 in
theorem mk_X7_259 : Cond.methodLink RX7 259 yX0_greatestPart ∈ wA := tA 559 (by decide +kernel) rfl
set_option maxRecDepth 100000 in
theorem mk_X7_262 : Cond.methodLink RX7 262 yX7_suppositionRefusal ∈ wA := tA 568 (by decide +kernel) rfl
set_option maxRecDepth 100000 in
theorem mk_X7_265 : Cond.methodLink RX7 265 yX0_likeOf ∈ wA := tA 572 (by decide +kernel) rfl
set_option maxRecDepth 100000 in
theorem mk_X7_271 : Cond.methodLink RX7 271 yX0_wouldTell ∈ wA := tA 576 (by decide +kernel) rfl
set_option maxRecDepth 100000 in
theorem mk_X7_278 : Cond.methodLink RX7 278 yX2_foulAtLast ∈ wA := tA 588 (by decide +kernel) rfl
set_option maxRecDepth 100000 in
theorem mk_X7_282 : Cond.methodLink RX7 282 yX7_chanceRefusal ∈ wA := tA 607 (by decide +kernel) rfl
set_option maxRecDepth 100000 in
theorem mk_X7_285 : Cond.methodLink RX7 285 yX0_cleanChances ∈ wA := tA 611 (by decide +kernel) rfl
set_option maxRecDepth 100000 in
theorem mk_X7_290 : Cond.methodLink RX7 290 yX3_appears ∈ wA := tA 620 (by decide +kernel) rfl
set_option maxRecDepth 100000 in
theorem mk_X7_294 : Cond.methodLink RX7 294 yX0_toldWrongly ∈ wA := tA 626 (by decide +kernel) rfl
set_option maxRecDepth 100000 in
theorem mk_X7_305 : Cond.methodLink RX7 305 yX3_dueByLot ∈ wA := tA 634 (by decide +kernel) rfl
set_option maxRecDepth 100000 in
theorem mk_X7_311 : Cond.methodLink RX7 311 yX0_triedOnes ∈ wA := tA 521 (by decide +kernel) rfl
set_option maxRecDepth 100000 in
theorem mk_X7_314 : Cond.methodLink RX7 314 yX0_allSalve ∈ wA := tA 655 (by decide +kernel) rfl
set_option maxRecDepth 100000 in
theorem mk_X7_317 : Cond.methodLink RX7 317 yX0_ploughmen ∈ wA := tA 659 (by decide +kernel) rfl
set_option maxRecDepth 100000 in
theorem mk_X7_320 : Cond.methodLink RX7 320 yX7_howManyThere ∈ wA := tA 664 (by decide +kernel) rfl
set_option maxRecDepth 100000 in
theorem mk_X7_324 : Cond.methodLink RX7 324 yX7_courtsKept ∈ wA := tA 667 (by decide +kernel) rfl
set_option maxRecDepth 100000 in
theorem mk_X7_334 : Cond.methodLink RX7 334 yX7_count ∈ wA := tA 677 (by decide +kernel) rfl
set_option maxRecDepth 100000 in
theorem mk_X7_337 : Cond.methodLink RX7 337 yX6_digestOnto ∈ wA := tA 682 (by decide +kernel) rfl
set_option maxRecDepth 100000 in
theorem mk_X7_341 : Cond.methodLink RX7 341 yX6_layOut ∈ wA := tA 249 (by decide +kernel) rfl
set_option maxRecDepth 100000 in
theorem mk_X7_344 : Cond.methodLink RX7 344 yX7_pairsFinding ∈ wA := tA 545 (by decide +kernel) rfl
set_option maxRecDepth 100000 in
theorem mk_X7_348 : Cond.methodLink RX7 348 yX7_commonDivisor ∈ wA := tA 476 (by decide +kernel) rfl
set_option maxRecDepth 100000 in
theorem mk_X0_17 : Cond.methodLinkNest RX0 17 yX3_init "ThirdDay" ∈ wN := tN 53 (by decide +kernel) rfl
set_option maxRecDepth 100000 in
theorem mk_X0_24 : Cond.methodLink RX0 24 yX1_init ∈ wA := tA 94 (by decide +kernel) rfl
set_option maxRecDepth 100000 in
theorem mk_X0_58 : Cond.methodLink RX0 58 yX3_become ∈ wA := tA 312 (by decide +kernel) rfl
set_option maxRecDepth 100000 in
theorem mk_X0_63 : Cond.methodLink RX0 63 yX0_actAgain ∈ wA := tA 316 (by decide +kernel) rfl
set_option maxRecDepth 100000 in
theorem mk_X0_75 : Cond.methodLink RX0 75 yX3_hardness ∈ wA := tA 361 (by decide +kernel) rfl
set_option maxRecDepth 100000 in
theorem mk_X0_79 : Cond.methodLink RX0 79 yX0_burn ∈ wA := tA 353 (by decide +kernel) rfl
set_option maxRecDepth 100000 in
theorem mk_X0_83 : Cond.methodLink RX0 83 yX3_appears ∈ wA := tA 341 (by decide +kernel) rfl
set_option maxRecDepth 100000 in
theorem mk_X0_87 : Cond.methodLink RX0 87 yX0_lacking ∈ wA := tA 349 (by decide +kernel) rfl
set_option maxRecDepth 100000 in
theorem mk_X0_96 : Cond.methodLink RX0 96 yX1_add ∈ wA := tA 389 (by decide +kernel) rfl
set_option maxRecDepth 100000 in
theorem mk_X0_100 : Cond.methodLink RX0 100 yX0_act ∈ wA := tA 324 (by decide +kernel) rfl
set_option maxRecDepth 100000 in
theorem mk_X0_103 : Cond.methodLink RX0 103 yX3_forgetDeeds ∈ wA := tA 320 (by decide +kernel) rfl
set_option maxRecDepth 100000 in
theorem mk_X0_112 : Cond.methodLink RX0 112 yX0_keptHeat ∈ wA := tA 328 (by decide +kernel) rfl
set_option maxRecDepth 100000 in
theorem mk_X0_116 : Cond.methodLink RX0 116 yX0_verdict ∈ wA := tA 337 (by decide +kernel) rfl
set_option maxRecDepth 100000 in
theorem mk_X0_118 : Cond.methodLink RX0 118 yX3_wrongedBy ∈ wA := tA 365 (by decide +kernel) rfl
set_option maxRecDepth 100000 in
theorem mk_X0_125 : Cond.methodLink RX0 125 yX0_toldClean ∈ wA := tA 369 (by decide +kernel) rfl
set_option maxRecDepth 100000 in
theorem mk_X0_128 : Cond.methodLink RX0 128 yX0_heatBehind ∈ wA := tA 373 (by decide +kernel) rfl
set_option maxRecDepth 100000 in
theorem mk_X0_141 : Cond.methodLink RX0 141 yX0_felt ∈ wA := tA 357 (by decide +kernel) rfl
set_option maxRecDepth 100000 in
theorem mk_X0_144 : Cond.methodLink RX0 144 yX3_isTried ∈ wA := tA 451 (by decide +kernel) rfl
set_option maxRecDepth 100000 in
theorem mk_X0_161 : Cond.methodLink RX0 161 yX0_wouldWrong ∈ wA := tA 447 (by decide +kernel) rfl
set_option maxRecDepth 100000 in
theorem mk_X0_166 : Cond.methodLink RX0 166 yX0_heatsTelling ∈ wA := tA 553 (by decide +kernel) rfl
set_option maxRecDepth 100000 in
theorem mk_X0_169 : Cond.methodLink RX0 169 yJ6_bitCount_0f7a4 ∈ wA := tA 563 (by decide +kernel) rfl
set_option maxRecDepth 100000 in
theorem mk_X0_174 : Cond.methodLink RX0 174 yX3_isOf ∈ wA := tA 663 (by decide +kernel) rfl
set_option maxRecDepth 100000 in
theorem mk_X1_22 : Cond.methodLink RX1 22 yX1_hasRoomFor ∈ wA := tA 393 (by decide +kernel) rfl
set_option maxRecDepth 100000 in
theorem mk_X2_18 : Cond.methodLink RX2 18 yX0_foulOnes ∈ wA := tA 592 (by decide +kernel) rfl
set_option maxRecDepth 100000 in
theorem mk_X2_24 : Cond.methodLink RX2 24 yX2_chosen ∈ wA := tA 596 (by decide +kernel) rfl
set_option maxRecDepth 100000 in
theorem mk_X2_32 : Cond.methodLink RX2 32 yX0_keptHeat ∈ wA := tA 600 (by decide +kernel) rfl
set_option maxRecDepth 100000 in
theorem mk_X3_34 : Cond.methodLink RX3 34 yX3_isOf ∈ wA := tA 345 (by decide +kernel) rfl
set_option maxRecDepth 100000 in
theorem mk_X3_38 : Cond.methodLink RX3 38 yX3_isTried ∈ wA := tA 638 (by decide +kernel) rfl
set_option maxRecDepth 100000 in
theorem mk_X4_21 : Cond.methodLink RX4 21 yX0_triedOnes ∈ wA := tA 491 (by decide +kernel) rfl
set_option maxRecDepth 100000 in
theorem mk_X4_25 : Cond.methodLink RX4 25 yJ6_bitCount_0f7a4 ∈ wA := tA 495 (by decide +kernel) rfl
set_option maxRecDepth 100000 in
theorem mk_X4_31 : Cond.methodLink RX4 31 yX6_layOut ∈ wA := tA 501 (by decide +kernel) rfl
set_option maxRecDepth 100000 in
theorem mk_X4_40 : Cond.methodLink RX4 40 yX0_toldClean ∈ wA := tA 502 (by decide +kernel) rfl
set_option maxRecDepth 100000 in
theorem mk_X4_46 : Cond.methodLink RX4 46 yX4_goOn ∈ wA := tA 503 (by decide +kernel) rfl
set_option maxRecDepth 100000 in
theorem mk_X4_64 : Cond.methodLink RX4 64 yX0_verdict ∈ wA := tA 510 (by decide +kernel) rfl
set_option maxRecDepth 100000 in
theorem mk_X4_68 : Cond.methodLink RX4 68 yX3_wrongedBy ∈ wA := tA 511 (by decide +kernel) rfl
set_option maxRecDepth 100000 in
theorem mk_X4_74 : Cond.methodLink RX4 74 yX0_heatBehind ∈ wA := tA 512 (by decide +kernel) rfl
set_option maxRecDepth 100000 in
theorem mk_X5_25 : Cond.methodLink RX5 25 yX5_passBlanks ∈ wA := tA 285 (by decide +kernel) rfl
set_option maxRecDepth 100000 in
theorem mk_X5_29 : Cond.methodLink RX5 29 yX5_takeIron ∈ wA := tA 289 (by decide +kernel) rfl
set_option maxRecDepth 100000 in
theorem mk_X5_38 : Cond.methodLink RX5 38 yX5_takeMan ∈ wA := tA 301 (by decide +kernel) rfl
set_option maxRecDepth 100000 in
theorem mk_X5_44 : Cond.methodLink RX5 44 yX5_takeFigure ∈ wA := tA 293 (by decide +kernel) rfl
set_option maxRecDepth 100000 in
theorem mk_X5_48 : Cond.methodLink RX5 48 yX5_kindOf ∈ wA := tA 305 (by decide +kernel) rfl
set_option maxRecDepth 100000 in
theorem mk_X5_52 : Cond.methodLink RX5 52 yX5_take ∈ wA := tA 297 (by decide +kernel) rfl
set_option maxRecDepth 100000 in
theorem mk_L_9 : Cond.methodLink RL 9 yL_cell ∈ wA := tA 687 (by decide +kernel) rfl
set_option maxRecDepth 100000 in
theorem mk_L_15 : Cond.methodLink RL 15 yL_low ∈ wA := tA 691 (by decide +kernel) rfl
set_option maxRecDepth 100000 in
theorem mk_L_19 : Cond.methodLink RL 19 yX7_text ∈ wA := tA 698 (by decide +kernel) rfl
set_option maxRecDepth 100000 in
theorem mk_L_24 : Cond.methodLink RL 24 yX7_put ∈ wA := tA 702 (by decide +kernel) rfl
set_option maxRecDepth 100000 in
theorem mk_L_28 : Cond.methodLink RL 28 yL_letter ∈ wA := tA 706 (by decide +kernel) rfl
set_option maxRecDepth 100000 in
theorem mk_L_32 : Cond.methodLink RL 32 yX7_fault ∈ wA := tA 709 (by decide +kernel) rfl
set_option maxRecDepth 100000 in
theorem mk_L_35 : Cond.methodLink RL 35 yX7_court ∈ wA := tA 277 (by decide +kernel) rfl
set_option maxRecDepth 100000 in
theorem mk_L_38 : Cond.methodLink RL 38 yL_feels ∈ wA := tA 734 (by decide +kernel) rfl
set_option maxRecDepth 100000 in
theorem mk_L_42 : Cond.methodLink RL 42 yL_hard ∈ wA := tA 737 (by decide +kernel) rfl
set_option maxRecDepth 100000 in
theorem mk_L_45 : Cond.methodLink RL 45 yL_comes ∈ wA := tA 728 (by decide +kernel) rfl
set_option maxRecDepth 100000 in
theorem mk_L_49 : Cond.methodLink RL 49 yL_burns ∈ wA := tA 731 (by decide +kernel) rfl
set_option maxRecDepth 100000 in
theorem mk_L_53 : Cond.methodLink RL 53 yL_tells ∈ wA := tA 725 (by decide +kernel) rfl
set_option maxRecDepth 100000 in
theorem mk_L_57 : Cond.methodLink RL 57 yL_told ∈ wA := tA 722 (by decide +kernel) rfl
set_option maxRecDepth 100000 in
theorem mk_L_61 : Cond.methodLink RL 61 yL_wrong ∈ wA := tA 740 (by decide +kernel) rfl
set_option maxRecDepth 100000 in
theorem mk_L_64 : Cond.methodLink RL 64 yL_cut ∈ wA := tA 743 (by decide +kernel) rfl
set_option maxRecDepth 100000 in
theorem mk_L_67 : Cond.methodLink RL 67 yL_trial ∈ wA := tA 719 (by decide +kernel) rfl
set_option maxRecDepth 100000 in
theorem mk_L_71 : Cond.methodLink RL 71 yX7_trial ∈ wA := tA 406 (by decide +kernel) rfl
set_option maxRecDepth 100000 in
theorem mk_L_73 : Cond.methodLink RL 73 yX7_asked ∈ wA := tA 639 (by decide +kernel) rfl
set_option maxRecDepth 100000 in
theorem mk_L_77 : Cond.methodLink RL 77 yX7_salve ∈ wA := tA 394 (by decide +kernel) rfl
set_option maxRecDepth 100000 in
theorem mk_L_80 : Cond.methodLink RL 80 yX7_heat ∈ wA := tA 377 (by decide +kernel) rfl
set_option maxRecDepth 100000 in
theorem mk_L_83 : Cond.methodLink RL 83 yX7_man ∈ wA := tA 749 (by decide +kernel) rfl
set_option maxRecDepth 100000 in
theorem mk_L_86 : Cond.methodLink RL 86 yX7_init ∈ wA := tA 14 (by decide +kernel) rfl
set_option maxRecDepth 100000 in
theorem mk_L_87 : Cond.methodLink RL 87 yL_court ∈ wA := tA 695 (by decide +kernel) rfl
set_option maxRecDepth 100000 in
theorem mk_L_90 : Cond.methodLink RL 90 yX7_digest ∈ wA := tA 671 (by decide +kernel) rfl
set_option maxRecDepth 100000 in
theorem mk_L_94 : Cond.methodLink RL 94 yX7_keep ∈ wA := tA 415 (by decide +kernel) rfl
set_option maxRecDepth 100000 in
theorem mk_L_97 : Cond.methodLink RL 97 yL_stir ∈ wA := tA 716 (by decide +kernel) rfl
set_option maxRecDepth 100000 in
theorem mk_L_101 : Cond.methodLink RL 101 yX7_count ∈ wA := tA 651 (by decide +kernel) rfl
set_option maxRecDepth 100000 in
theorem mk_L_104 : Cond.methodLink RL 104 yX7_comes ∈ wA := tA 430 (by decide +kernel) rfl
set_option maxRecDepth 100000 in
theorem mk_L_106 : Cond.methodLink RL 106 yL_tell ∈ wA := tA 746 (by decide +kernel) rfl
set_option maxRecDepth 100000 in
theorem mk_L_110 : Cond.methodLink RL 110 yX7_undo ∈ wA := tA 410 (by decide +kernel) rfl
set_option maxRecDepth 100000 in
theorem mk_L_113 : Cond.methodLink RL 113 yX7_heats ∈ wA := tA 460 (by decide +kernel) rfl
set_option maxRecDepth 100000 in
theorem mk_L_116 : Cond.methodLink RL 116 yX7_best ∈ wA := tA 456 (by decide +kernel) rfl
set_option maxRecDepth 100000 in
theorem mk_L_119 : Cond.methodLink RL 119 yX7_wrong ∈ wA := tA 435 (by decide +kernel) rfl
set_option maxRecDepth 100000 in
theorem mk_L_121 : Cond.methodLink RL 121 yX7_tells ∈ wA := tA 468 (by decide +kernel) rfl
set_option maxRecDepth 100000 in
theorem mk_L_123 : Cond.methodLink RL 123 yX7_upper ∈ wA := tA 643 (by decide +kernel) rfl
set_option maxRecDepth 100000 in
theorem mk_L_126 : Cond.methodLink RL 126 yX7_lower ∈ wA := tA 647 (by decide +kernel) rfl
set_option maxRecDepth 100000 in
theorem mk_L_129 : Cond.methodLink RL 129 yX7_order ∈ wA := tA 479 (by decide +kernel) rfl
set_option maxRecDepth 100000 in
theorem mk_L_132 : Cond.methodLink RL 132 yL_bits ∈ wA := tA 713 (by decide +kernel) rfl
set_option maxRecDepth 100000 in
theorem mk_L_135 : Cond.methodLink RL 135 yX7_at ∈ wA := tA 269 (by decide +kernel) rfl
set_option maxRecDepth 100000 in
theorem mk_L_138 : Cond.methodLink RL 138 yX7_tried ∈ wA := tA 513 (by decide +kernel) rfl
set_option maxRecDepth 100000 in
theorem mk_L_141 : Cond.methodLink RL 141 yX7_row ∈ wA := tA 234 (by decide +kernel) rfl
set_option maxRecDepth 100000 in
theorem mk_L_144 : Cond.methodLink RL 144 yX7_lay ∈ wA := tA 253 (by decide +kernel) rfl
set_option maxRecDepth 100000 in
theorem mk_L_147 : Cond.methodLink RL 147 yX7_least ∈ wA := tA 525 (by decide +kernel) rfl
set_option maxRecDepth 100000 in
theorem mk_L_150 : Cond.methodLink RL 150 yX7_odds ∈ wA := tA 603 (by decide +kernel) rfl
set_option maxRecDepth 100000 in
theorem mk_L_153 : Cond.methodLink RL 153 yX7_fits ∈ wA := tA 537 (by decide +kernel) rfl
set_option maxRecDepth 100000 in
theorem mk_L_156 : Cond.methodLink RL 156 yX7_ask ∈ wA := tA 555 (by decide +kernel) rfl
set_option maxRecDepth 100000 in
theorem mk_L_159 : Cond.methodLink RL 159 yX7_hands ∈ wA := tA 564 (by decide +kernel) rfl
set_option maxRecDepth 100000 in
theorem mk_L_162 : Cond.methodLink RL 162 yX7_kinds ∈ wA := tA 580 (by decide +kernel) rfl
set_option maxRecDepth 100000 in
theorem mk_L_165 : Cond.methodLink RL 165 yX7_duel ∈ wA := tA 584 (by decide +kernel) rfl
set_option maxRecDepth 100000 in
theorem mk_L_168 : Cond.methodLink RL 168 yX7_mid ∈ wA := tA 616 (by decide +kernel) rfl
set_option maxRecDepth 100000 in
theorem mk_L_172 : Cond.methodLink RL 172 yX7_lots ∈ wA := tA 621 (by decide +kernel) rfl
set_option maxRecDepth 100000 in
theorem mk_L_175 : Cond.methodLink RL 175 yX7_on ∈ wA := tA 426 (by decide +kernel) rfl
set_option maxRecDepth 100000 in
theorem mk_L_178 : Cond.methodLink RL 178 yX7_tear ∈ wA := tA 273 (by decide +kernel) rfl
set_option maxRecDepth 100000 in
theorem ck_X7_293 : Cond.constant RX7 293 (2147483646) ∈ wA := tA 625 (by decide +kernel) rfl
set_option maxRecDepth 100000 in
theorem ck_X0_165 : Cond.constant RX0 165 (2147483647) ∈ wA := tA 552 (by decide +kernel) rfl
set_option maxRecDepth 100000 in
theorem ck_L_7 : Cond.constant RL 7 (40503) ∈ wA := tA 690 (by decide +kernel) rfl
set_option maxRecDepth 100000 in
theorem ck_L_8 : Cond.constant RL 8 (2147483647) ∈ wA := tA 694 (by decide +kernel) rfl
set_option maxRecDepth 100000 in
theorem ck_L_171 : Cond.constant RL 171 (16777215) ∈ wA := tA 753 (by decide +kernel) rfl
set_option maxRecDepth 100000 in
theorem ck_J6_265 : Cond.constant RJ6 265 (1431655765) ∈ wA := tA 498 (by decide +kernel) rfl
set_option maxRecDepth 100000 in
theorem ck_J6_266 : Cond.constant RJ6 266 (858993459) ∈ wA := tA 499 (by decide +kernel) rfl
set_option maxRecDepth 100000 in
theorem ck_J6_267 : Cond.constant RJ6 267 (252645135) ∈ wA := tA 500 (by decide +kernel) rfl
set_option maxRecDepth 100000 in
theorem ck_X7_288 : Cond.constantLong RX7 288 (12) ∈ wA := tA 615 (by decide +kernel) rfl
set_option maxRecDepth 100000 in
theorem ck_X7_297 : Cond.constantLong RX7 297 (48271) ∈ wA := tA 630 (by decide +kernel) rfl
set_option maxRecDepth 100000 in
theorem ck_X7_299 : Cond.constantLong RX7 299 (2147483647) ∈ wA := tA 631 (by decide +kernel) rfl
set_option maxRecDepth 100000 in
theorem ck_X7_301 : Cond.constantLong RX7 301 (8) ∈ wA := tA 632 (by decide +kernel) rfl
set_option maxRecDepth 100000 in
theorem ck_X7_303 : Cond.constantLong RX7 303 (3) ∈ wA := tA 633 (by decide +kernel) rfl
set_option maxRecDepth 100000 in
theorem ck_X7_330 : Cond.constantLong RX7 330 (17) ∈ wA := tA 675 (by decide +kernel) rfl
set_option maxRecDepth 100000 in
theorem ck_X7_332 : Cond.constantLong RX7 332 (31) ∈ wA := tA 676 (by decide +kernel) rfl
set_option maxRecDepth 100000 in
theorem ck_X6_19 : Cond.constantLong RX6 19 (31) ∈ wA := tA 686 (by decide +kernel) rfl
set_option maxRecDepth 100000 in
theorem kc_X0_init : Cond.code yX0_init cX0_init 2 none ∈ wA := tA 48 (by decide +kernel) rfl
set_option maxRecDepth 100000 in
theorem ki_X0_init : Cond.instanceMethod yX0_init ∈ wA ∧ Cond.initialized RX0 ∈ wA := ⟨tA 47 (by decide +kernel) rfl, tA 3 (by decide +kernel) rfl⟩
set_option maxRecDepth 100000 in
theorem kc_X0_assemble : Cond.code yX0_assemble cX0_assemble 5 none ∈ wA := tA 311 (by decide +kernel) rfl
set_option maxRecDepth 100000 in
theorem ki_X0_assemble : Cond.instanceMethod yX0_assemble ∈ wA ∧ Cond.selects RX0 yX0_assemble yX0_assemble ∈ wA ∧ Cond.initialized RX0 ∈ wA := ⟨tA 309 (by decide +kernel) rfl, tA 310 (by decide +kernel) rfl, tA 3 (by decide +kernel) rfl⟩
set_option maxRecDepth 100000 in
theorem kc_X0_detail : Cond.code yX0_detail cX0_detail 3 (some .int) ∈ wA := tA 681 (by decide +kernel) rfl
set_option maxRecDepth 100000 in
theorem ki_X0_detail : Cond.instanceMethod yX0_detail ∈ wA ∧ Cond.selects RX0 yX0_detail yX0_detail ∈ wA ∧ Cond.initialized RX0 ∈ wA := ⟨tA 679 (by decide +kernel) rfl, tA 680 (by decide +kernel) rfl, tA 3 (by decide +kernel) rfl⟩
set_option maxRecDepth 100000 in
theorem kc_X0_perform : Cond.code yX0_perform cX0_perform 3 none ∈ wA := tA 388 (by decide +kernel) rfl
set_option maxRecDepth 100000 in
theorem ki_X0_perform : Cond.instanceMethod yX0_perform ∈ wA ∧ Cond.selects RX0 yX0_perform yX0_perform ∈ wA ∧ Cond.initialized RX0 ∈ wA := ⟨tA 386 (by decide +kernel) rfl, tA 387 (by decide +kernel) rfl, tA 3 (by decide +kernel) rfl⟩
set_option maxRecDepth 100000 in
theorem kc_X0_actAgain : Cond.code yX0_actAgain cX0_actAgain 2 none ∈ wA := tA 319 (by decide +kernel) rfl
set_option maxRecDepth 100000 in
theorem ki_X0_actAgain : Cond.instanceMethod yX0_actAgain ∈ wA ∧ Cond.selects RX0 yX0_actAgain yX0_actAgain ∈ wA ∧ Cond.initialized RX0 ∈ wA := ⟨tA 317 (by decide +kernel) rfl, tA 318 (by decide +kernel) rfl, tA 3 (by decide +kernel) rfl⟩
set_option maxRecDepth 100000 in
theorem kc_X0_act : Cond.code yX0_act cX0_act 4 none ∈ wA := tA 327 (by decide +kernel) rfl
set_option maxRecDepth 100000 in
theorem ki_X0_act : Cond.instanceMethod yX0_act ∈ wA ∧ Cond.selects RX0 yX0_act yX0_act ∈ wA ∧ Cond.initialized RX0 ∈ wA := ⟨tA 326 (by decide +kernel) rfl, tAp 9 (by decide +kernel), tA 3 (by decide +kernel) rfl⟩
set_option maxRecDepth 100000 in
theorem kc_X0_heatBehind : Cond.code yX0_heatBehind cX0_heatBehind 4 (some .int) ∈ wA := tA 376 (by decide +kernel) rfl
set_option maxRecDepth 100000 in
theorem ki_X0_heatBehind : Cond.instanceMethod yX0_heatBehind ∈ wA ∧ Cond.selects RX0 yX0_heatBehind yX0_heatBehind ∈ wA ∧ Cond.initialized RX0 ∈ wA := ⟨tA 374 (by decide +kernel) rfl, tA 375 (by decide +kernel) rfl, tA 3 (by decide +kernel) rfl⟩
set_option maxRecDepth 100000 in
theorem kc_X0_keptHeat : Cond.code yX0_keptHeat cX0_keptHeat 1 (some .int) ∈ wA := tA 330 (by decide +kernel) rfl
set_option maxRecDepth 100000 in
theorem ki_X0_keptHeat : Cond.static yX0_keptHeat ∈ wA ∧ Cond.initialized RX0 ∈ wA := ⟨tA 329 (by decide +kernel) rfl, tA 3 (by decide +kernel) rfl⟩
set_option maxRecDepth 100000 in
theorem kc_X0_felt : Cond.code yX0_felt cX0_felt 4 (some .int) ∈ wA := tA 360 (by decide +kernel) rfl
set_option maxRecDepth 100000 in
theorem ki_X0_felt : Cond.instanceMethod yX0_felt ∈ wA ∧ Cond.selects RX0 yX0_felt yX0_felt ∈ wA ∧ Cond.initialized RX0 ∈ wA := ⟨tA 358 (by decide +kernel) rfl, tA 359 (by decide +kernel) rfl, tA 3 (by decide +kernel) rfl⟩
set_option maxRecDepth 100000 in
theorem kc_X0_burn : Cond.code yX0_burn cX0_burn 3 (some .int) ∈ wA := tA 356 (by decide +kernel) rfl
set_option maxRecDepth 100000 in
theorem ki_X0_burn : Cond.instanceMethod yX0_burn ∈ wA ∧ Cond.selects RX0 yX0_burn yX0_burn ∈ wA ∧ Cond.initialized RX0 ∈ wA := ⟨tA 354 (by decide +kernel) rfl, tA 355 (by decide +kernel) rfl, tA 3 (by decide +kernel) rfl⟩
set_option maxRecDepth 100000 in
theorem kc_X0_lacking : Cond.code yX0_lacking cX0_lacking 3 (some .int) ∈ wA := tA 352 (by decide +kernel) rfl
set_option maxRecDepth 100000 in
theorem ki_X0_lacking : Cond.instanceMethod yX0_lacking ∈ wA ∧ Cond.selects RX0 yX0_lacking yX0_lacking ∈ wA ∧ Cond.initialized RX0 ∈ wA := ⟨tA 350 (by decide +kernel) rfl, tA 351 (by decide +kernel) rfl, tA 3 (by decide +kernel) rfl⟩
set_option maxRecDepth 100000 in
theorem kc_X0_verdict : Cond.code yX0_verdict cX0_verdict 3 (some .int) ∈ wA := tA 340 (by decide +kernel) rfl
set_option maxRecDepth 100000 in
theorem ki_X0_verdict : Cond.instanceMethod yX0_verdict ∈ wA ∧ Cond.selects RX0 yX0_verdict yX0_verdict ∈ wA ∧ Cond.initialized RX0 ∈ wA := ⟨tA 338 (by decide +kernel) rfl, tA 339 (by decide +kernel) rfl, tA 3 (by decide +kernel) rfl⟩
set_option maxRecDepth 100000 in
theorem kc_X0_mustBeCleared : Cond.code yX0_mustBeCleared cX0_mustBeCleared 2 (some .boolean) ∈ wA := tA 532 (by decide +kernel) rfl
set_option maxRecDepth 100000 in
theorem ki_X0_mustBeCleared : Cond.instanceMethod yX0_mustBeCleared ∈ wA ∧ Cond.selects RX0 yX0_mustBeCleared yX0_mustBeCleared ∈ wA ∧ Cond.initialized RX0 ∈ wA := ⟨tA 530 (by decide +kernel) rfl, tA 531 (by decide +kernel) rfl, tA 3 (by decide +kernel) rfl⟩
set_option maxRecDepth 100000 in
theorem kc_X0_salveNeeded : Cond.code yX0_salveNeeded cX0_salveNeeded 2 (some .int) ∈ wA := tA 536 (by decide +kernel) rfl
set_option maxRecDepth 100000 in
theorem ki_X0_salveNeeded : Cond.instanceMethod yX0_salveNeeded ∈ wA ∧ Cond.selects RX0 yX0_salveNeeded yX0_salveNeeded ∈ wA ∧ Cond.initialized RX0 ∈ wA := ⟨tA 534 (by decide +kernel) rfl, tA 535 (by decide +kernel) rfl, tA 3 (by decide +kernel) rfl⟩
set_option maxRecDepth 100000 in
theorem kc_X0_cleanChances : Cond.code yX0_cleanChances cX0_cleanChances 4 (some .int) ∈ wA := tA 614 (by decide +kernel) rfl
set_option maxRecDepth 100000 in
theorem ki_X0_cleanChances : Cond.instanceMethod yX0_cleanChances ∈ wA ∧ Cond.selects RX0 yX0_cleanChances yX0_cleanChances ∈ wA ∧ Cond.initialized RX0 ∈ wA := ⟨tA 612 (by decide +kernel) rfl, tA 613 (by decide +kernel) rfl, tA 3 (by decide +kernel) rfl⟩
set_option maxRecDepth 100000 in
theorem kc_X0_likeOf : Cond.code yX0_likeOf cX0_likeOf 2 (some (.object "ThirdDay$Man")) ∈ wA := tA 575 (by decide +kernel) rfl
set_option maxRecDepth 100000 in
theorem ki_X0_likeOf : Cond.instanceMethod yX0_likeOf ∈ wA ∧ Cond.selects RX0 yX0_likeOf yX0_likeOf ∈ wA ∧ Cond.initialized RX0 ∈ wA := ⟨tA 573 (by decide +kernel) rfl, tA 574 (by decide +kernel) rfl, tA 3 (by decide +kernel) rfl⟩
set_option maxRecDepth 100000 in
theorem kc_X0_wouldTell : Cond.code yX0_wouldTell cX0_wouldTell 4 (some .boolean) ∈ wA := tA 579 (by decide +kernel) rfl
set_option maxRecDepth 100000 in
theorem ki_X0_wouldTell : Cond.instanceMethod yX0_wouldTell ∈ wA ∧ Cond.selects RX0 yX0_wouldTell yX0_wouldTell ∈ wA ∧ Cond.initialized RX0 ∈ wA := ⟨tA 577 (by decide +kernel) rfl, tA 578 (by decide +kernel) rfl, tA 3 (by decide +kernel) rfl⟩
set_option maxRecDepth 100000 in
theorem kc_X0_guiltyWrongly : Cond.code yX0_guiltyWrongly cX0_guiltyWrongly 4 (some .int) ∈ wA := tA 446 (by decide +kernel) rfl
set_option maxRecDepth 100000 in
theorem ki_X0_guiltyWrongly : Cond.instanceMethod yX0_guiltyWrongly ∈ wA ∧ Cond.selects RX0 yX0_guiltyWrongly yX0_guiltyWrongly ∈ wA ∧ Cond.initialized RX0 ∈ wA := ⟨tA 444 (by decide +kernel) rfl, tA 445 (by decide +kernel) rfl, tA 3 (by decide +kernel) rfl⟩
set_option maxRecDepth 100000 in
theorem kc_X0_allWrongly : Cond.code yX0_allWrongly cX0_allWrongly 4 (some .int) ∈ wA := tA 455 (by decide +kernel) rfl
set_option maxRecDepth 100000 in
theorem ki_X0_allWrongly : Cond.instanceMethod yX0_allWrongly ∈ wA ∧ Cond.selects RX0 yX0_allWrongly yX0_allWrongly ∈ wA ∧ Cond.initialized RX0 ∈ wA := ⟨tA 453 (by decide +kernel) rfl, tA 454 (by decide +kernel) rfl, tA 3 (by decide +kernel) rfl⟩
set_option maxRecDepth 100000 in
theorem kc_X0_wouldWrong : Cond.code yX0_wouldWrong cX0_wouldWrong 3 (some .boolean) ∈ wA := tA 450 (by decide +kernel) rfl
set_option maxRecDepth 100000 in
theorem ki_X0_wouldWrong : Cond.instanceMethod yX0_wouldWrong ∈ wA ∧ Cond.selects RX0 yX0_wouldWrong yX0_wouldWrong ∈ wA ∧ Cond.initialized RX0 ∈ wA := ⟨tA 449 (by decide +kernel) rfl, tAp 12 (by decide +kernel), tA 3 (by decide +kernel) rfl⟩
set_option maxRecDepth 100000 in
theorem kc_X0_foulOnes : Cond.code yX0_foulOnes cX0_foulOnes 4 (some .int) ∈ wA := tA 595 (by decide +kernel) rfl
set_option maxRecDepth 100000 in
theorem ki_X0_foulOnes : Cond.instanceMethod yX0_foulOnes ∈ wA ∧ Cond.selects RX0 yX0_foulOnes yX0_foulOnes ∈ wA ∧ Cond.initialized RX0 ∈ wA := ⟨tA 593 (by decide +kernel) rfl, tA 594 (by decide +kernel) rfl, tA 3 (by decide +kernel) rfl⟩
set_option maxRecDepth 100000 in
theorem kc_X0_heatsTelling : Cond.code yX0_heatsTelling cX0_heatsTelling 5 (some .int) ∈ wA := tA 467 (by decide +kernel) rfl
set_option maxRecDepth 100000 in
theorem ki_X0_heatsTelling : Cond.instanceMethod yX0_heatsTelling ∈ wA ∧ Cond.selects RX0 yX0_heatsTelling yX0_heatsTelling ∈ wA ∧ Cond.initialized RX0 ∈ wA := ⟨tA 465 (by decide +kernel) rfl, tA 466 (by decide +kernel) rfl, tA 3 (by decide +kernel) rfl⟩
set_option maxRecDepth 100000 in
theorem kc_X0_heatsFitting : Cond.code yX0_heatsFitting cX0_heatsFitting 4 (some .int) ∈ wA := tA 551 (by decide +kernel) rfl
set_option maxRecDepth 100000 in
theorem ki_X0_heatsFitting : Cond.instanceMethod yX0_heatsFitting ∈ wA ∧ Cond.selects RX0 yX0_heatsFitting yX0_heatsFitting ∈ wA ∧ Cond.initialized RX0 ∈ wA := ⟨tA 549 (by decide +kernel) rfl, tA 550 (by decide +kernel) rfl, tA 3 (by decide +kernel) rfl⟩
set_option maxRecDepth 100000 in
theorem kc_X0_greatestPart : Cond.code yX0_greatestPart cX0_greatestPart 5 (some .int) ∈ wA := tA 562 (by decide +kernel) rfl
set_option maxRecDepth 100000 in
theorem ki_X0_greatestPart : Cond.instanceMethod yX0_greatestPart ∈ wA ∧ Cond.selects RX0 yX0_greatestPart yX0_greatestPart ∈ wA ∧ Cond.initialized RX0 ∈ wA := ⟨tA 560 (by decide +kernel) rfl, tA 561 (by decide +kernel) rfl, tA 3 (by decide +kernel) rfl⟩
set_option maxRecDepth 100000 in
theorem kc_X0_triedOnes : Cond.code yX0_triedOnes cX0_triedOnes 3 (some .int) ∈ wA := tA 494 (by decide +kernel) rfl
set_option maxRecDepth 100000 in
theorem ki_X0_triedOnes : Cond.instanceMethod yX0_triedOnes ∈ wA ∧ Cond.selects RX0 yX0_triedOnes yX0_triedOnes ∈ wA ∧ Cond.initialized RX0 ∈ wA := ⟨tA 492 (by decide +kernel) rfl, tA 493 (by decide +kernel) rfl, tA 3 (by decide +kernel) rfl⟩
set_option maxRecDepth 100000 in
theorem kc_X0_toldClean : Cond.code yX0_toldClean cX0_toldClean 3 (some .int) ∈ wA := tA 372 (by decide +kernel) rfl
set_option maxRecDepth 100000 in
theorem ki_X0_toldClean : Cond.instanceMethod yX0_toldClean ∈ wA ∧ Cond.selects RX0 yX0_toldClean yX0_toldClean ∈ wA ∧ Cond.initialized RX0 ∈ wA := ⟨tA 370 (by decide +kernel) rfl, tA 371 (by decide +kernel) rfl, tA 3 (by decide +kernel) rfl⟩
set_option maxRecDepth 100000 in
theorem kc_X0_toldWrongly : Cond.code yX0_toldWrongly cX0_toldWrongly 3 (some .int) ∈ wA := tA 629 (by decide +kernel) rfl
set_option maxRecDepth 100000 in
theorem ki_X0_toldWrongly : Cond.instanceMethod yX0_toldWrongly ∈ wA ∧ Cond.selects RX0 yX0_toldWrongly yX0_toldWrongly ∈ wA ∧ Cond.initialized RX0 ∈ wA := ⟨tA 627 (by decide +kernel) rfl, tA 628 (by decide +kernel) rfl, tA 3 (by decide +kernel) rfl⟩
set_option maxRecDepth 100000 in
theorem kc_X0_allSalve : Cond.code yX0_allSalve cX0_allSalve 3 (some .int) ∈ wA := tA 658 (by decide +kernel) rfl
set_option maxRecDepth 100000 in
theorem ki_X0_allSalve : Cond.instanceMethod yX0_allSalve ∈ wA ∧ Cond.selects RX0 yX0_allSalve yX0_allSalve ∈ wA ∧ Cond.initialized RX0 ∈ wA := ⟨tA 656 (by decide +kernel) rfl, tA 657 (by decide +kernel) rfl, tA 3 (by decide +kernel) rfl⟩
set_option maxRecDepth 100000 in
theorem kc_X0_ploughmen : Cond.code yX0_ploughmen cX0_ploughmen 3 (some .int) ∈ wA := tA 662 (by decide +kernel) rfl
set_option maxRecDepth 100000 in
theorem ki_X0_ploughmen : Cond.instanceMethod yX0_ploughmen ∈ wA ∧ Cond.selects RX0 yX0_ploughmen yX0_ploughmen ∈ wA ∧ Cond.initialized RX0 ∈ wA := ⟨tA 660 (by decide +kernel) rfl, tA 661 (by decide +kernel) rfl, tA 3 (by decide +kernel) rfl⟩
set_option maxRecDepth 100000 in
theorem kc_X1_init : Cond.code yX1_init cX1_init 2 none ∈ wA := tA 96 (by decide +kernel) rfl
set_option maxRecDepth 100000 in
theorem ki_X1_init : Cond.instanceMethod yX1_init ∈ wA ∧ Cond.initialized RX1 ∈ wA := ⟨tA 95 (by decide +kernel) rfl, tA 5 (by decide +kernel) rfl⟩
set_option maxRecDepth 100000 in
theorem kc_X1_hasRoomFor : Cond.code yX1_hasRoomFor cX1_hasRoomFor 2 (some .boolean) ∈ wA := tA 384 (by decide +kernel) rfl
set_option maxRecDepth 100000 in
theorem ki_X1_hasRoomFor : Cond.instanceMethod yX1_hasRoomFor ∈ wA ∧ Cond.selects RX1 yX1_hasRoomFor yX1_hasRoomFor ∈ wA ∧ Cond.initialized RX1 ∈ wA := ⟨tA 382 (by decide +kernel) rfl, tA 383 (by decide +kernel) rfl, tA 5 (by decide +kernel) rfl⟩
set_option maxRecDepth 100000 in
theorem kc_X1_add : Cond.code yX1_add cX1_add 3 none ∈ wA := tA 392 (by decide +kernel) rfl
set_option maxRecDepth 100000 in
theorem ki_X1_add : Cond.instanceMethod yX1_add ∈ wA ∧ Cond.selects RX1 yX1_add yX1_add ∈ wA ∧ Cond.initialized RX1 ∈ wA := ⟨tA 390 (by decide +kernel) rfl, tA 391 (by decide +kernel) rfl, tA 5 (by decide +kernel) rfl⟩
set_option maxRecDepth 100000 in
theorem kc_X1_become : Cond.code yX1_become cX1_become 3 none ∈ wA := tA 425 (by decide +kernel) rfl
set_option maxRecDepth 100000 in
theorem ki_X1_become : Cond.instanceMethod yX1_become ∈ wA ∧ Cond.selects RX1 yX1_become yX1_become ∈ wA ∧ Cond.initialized RX1 ∈ wA := ⟨tA 423 (by decide +kernel) rfl, tA 424 (by decide +kernel) rfl, tA 5 (by decide +kernel) rfl⟩
set_option maxRecDepth 100000 in
theorem kc_X2_init : Cond.code yX2_init cX2_init 1 none ∈ wA := tA 167 (by decide +kernel) rfl
set_option maxRecDepth 100000 in
theorem ki_X2_init : Cond.instanceMethod yX2_init ∈ wA ∧ Cond.initialized RX2 ∈ wA := ⟨tA 166 (by decide +kernel) rfl, tA 7 (by decide +kernel) rfl⟩
set_option maxRecDepth 100000 in
theorem kc_X2_foulAtLast : Cond.code yX2_foulAtLast cX2_foulAtLast 5 (some .int) ∈ wA := tA 591 (by decide +kernel) rfl
set_option maxRecDepth 100000 in
theorem ki_X2_foulAtLast : Cond.instanceMethod yX2_foulAtLast ∈ wA ∧ Cond.selects RX2 yX2_foulAtLast yX2_foulAtLast ∈ wA ∧ Cond.initialized RX2 ∈ wA := ⟨tA 589 (by decide +kernel) rfl, tA 590 (by decide +kernel) rfl, tA 7 (by decide +kernel) rfl⟩
set_option maxRecDepth 100000 in
theorem kc_X2_chosen : Cond.code yX2_chosen cX2_chosen 6 (some .int) ∈ wA := tA 599 (by decide +kernel) rfl
set_option maxRecDepth 100000 in
theorem ki_X2_chosen : Cond.instanceMethod yX2_chosen ∈ wA ∧ Cond.selects RX2 yX2_chosen yX2_chosen ∈ wA ∧ Cond.initialized RX2 ∈ wA := ⟨tA 598 (by decide +kernel) rfl, tAp 19 (by decide +kernel), tA 7 (by decide +kernel) rfl⟩
set_option maxRecDepth 100000 in
theorem kc_X3_init : Cond.code yX3_init cX3_init 1 none ∈ wA := tA 55 (by decide +kernel) rfl
set_option maxRecDepth 100000 in
theorem ki_X3_init : Cond.instanceMethod yX3_init ∈ wA ∧ Cond.initialized RX3 ∈ wA := ⟨tA 54 (by decide +kernel) rfl, tA 4 (by decide +kernel) rfl⟩
set_option maxRecDepth 100000 in
theorem kc_X3_become : Cond.code yX3_become cX3_become 5 none ∈ wA := tA 315 (by decide +kernel) rfl
set_option maxRecDepth 100000 in
theorem ki_X3_become : Cond.instanceMethod yX3_become ∈ wA ∧ Cond.selects RX3 yX3_become yX3_become ∈ wA ∧ Cond.initialized RX3 ∈ wA := ⟨tA 313 (by decide +kernel) rfl, tA 314 (by decide +kernel) rfl, tA 4 (by decide +kernel) rfl⟩
set_option maxRecDepth 100000 in
theorem kc_X3_forgetDeeds : Cond.code yX3_forgetDeeds cX3_forgetDeeds 1 none ∈ wA := tA 323 (by decide +kernel) rfl
set_option maxRecDepth 100000 in
theorem ki_X3_forgetDeeds : Cond.instanceMethod yX3_forgetDeeds ∈ wA ∧ Cond.selects RX3 yX3_forgetDeeds yX3_forgetDeeds ∈ wA ∧ Cond.initialized RX3 ∈ wA := ⟨tA 321 (by decide +kernel) rfl, tA 322 (by decide +kernel) rfl, tA 4 (by decide +kernel) rfl⟩
set_option maxRecDepth 100000 in
theorem kc_X3_isTried : Cond.code yX3_isTried cX3_isTried 1 (some .boolean) ∈ wA := tA 405 (by decide +kernel) rfl
set_option maxRecDepth 100000 in
theorem ki_X3_isTried : Cond.instanceMethod yX3_isTried ∈ wA ∧ Cond.selects RX3 yX3_isTried yX3_isTried ∈ wA ∧ Cond.initialized RX3 ∈ wA := ⟨tA 403 (by decide +kernel) rfl, tA 404 (by decide +kernel) rfl, tA 4 (by decide +kernel) rfl⟩
set_option maxRecDepth 100000 in
theorem kc_X3_isOf : Cond.code yX3_isOf cX3_isOf 2 (some .boolean) ∈ wA := tA 348 (by decide +kernel) rfl
set_option maxRecDepth 100000 in
theorem ki_X3_isOf : Cond.instanceMethod yX3_isOf ∈ wA ∧ Cond.selects RX3 yX3_isOf yX3_isOf ∈ wA ∧ Cond.initialized RX3 ∈ wA := ⟨tA 346 (by decide +kernel) rfl, tA 347 (by decide +kernel) rfl, tA 4 (by decide +kernel) rfl⟩
set_option maxRecDepth 100000 in
theorem kc_X3_hardness : Cond.code yX3_hardness cX3_hardness 1 (some .int) ∈ wA := tA 364 (by decide +kernel) rfl
set_option maxRecDepth 100000 in
theorem ki_X3_hardness : Cond.instanceMethod yX3_hardness ∈ wA ∧ Cond.selects RX3 yX3_hardness yX3_hardness ∈ wA ∧ Cond.initialized RX3 ∈ wA := ⟨tA 362 (by decide +kernel) rfl, tA 363 (by decide +kernel) rfl, tA 4 (by decide +kernel) rfl⟩
set_option maxRecDepth 100000 in
theorem kc_X3_appears : Cond.code yX3_appears cX3_appears 2 (some .boolean) ∈ wA := tA 344 (by decide +kernel) rfl
set_option maxRecDepth 100000 in
theorem ki_X3_appears : Cond.instanceMethod yX3_appears ∈ wA ∧ Cond.selects RX3 yX3_appears yX3_appears ∈ wA ∧ Cond.initialized RX3 ∈ wA := ⟨tA 342 (by decide +kernel) rfl, tA 343 (by decide +kernel) rfl, tA 4 (by decide +kernel) rfl⟩
set_option maxRecDepth 100000 in
theorem kc_X3_wrongedBy : Cond.code yX3_wrongedBy cX3_wrongedBy 2 (some .boolean) ∈ wA := tA 368 (by decide +kernel) rfl
set_option maxRecDepth 100000 in
theorem ki_X3_wrongedBy : Cond.instanceMethod yX3_wrongedBy ∈ wA ∧ Cond.selects RX3 yX3_wrongedBy yX3_wrongedBy ∈ wA ∧ Cond.initialized RX3 ∈ wA := ⟨tA 366 (by decide +kernel) rfl, tA 367 (by decide +kernel) rfl, tA 4 (by decide +kernel) rfl⟩
set_option maxRecDepth 100000 in
theorem kc_X3_dueByLot : Cond.code yX3_dueByLot cX3_dueByLot 1 (some .int) ∈ wA := tA 637 (by decide +kernel) rfl
set_option maxRecDepth 100000 in
theorem ki_X3_dueByLot : Cond.instanceMethod yX3_dueByLot ∈ wA ∧ Cond.selects RX3 yX3_dueByLot yX3_dueByLot ∈ wA ∧ Cond.initialized RX3 ∈ wA := ⟨tA 635 (by decide +kernel) rfl, tA 636 (by decide +kernel) rfl, tA 4 (by decide +kernel) rfl⟩
set_option maxRecDepth 100000 in
theorem kc_X4_init : Cond.code yX4_init cX4_init 1 none ∈ wA := tA 154 (by decide +kernel) rfl
set_option maxRecDepth 100000 in
theorem ki_X4_init : Cond.instanceMethod yX4_init ∈ wA ∧ Cond.initialized RX4 ∈ wA := ⟨tA 153 (by decide +kernel) rfl, tA 6 (by decide +kernel) rfl⟩
set_option maxRecDepth 100000 in
theorem kc_X4_layBest : Cond.code yX4_layBest cX4_layBest 5 (some .int) ∈ wA := tA 490 (by decide +kernel) rfl
set_option maxRecDepth 100000 in
theorem ki_X4_layBest : Cond.instanceMethod yX4_layBest ∈ wA ∧ Cond.selects RX4 yX4_layBest yX4_layBest ∈ wA ∧ Cond.initialized RX4 ∈ wA := ⟨tA 488 (by decide +kernel) rfl, tA 489 (by decide +kernel) rfl, tA 6 (by decide +kernel) rfl⟩
set_option maxRecDepth 100000 in
theorem kc_X4_goOn : Cond.code yX4_goOn cX4_goOn 13 none ∈ wA := tA 506 (by decide +kernel) rfl
set_option maxRecDepth 100000 in
theorem ki_X4_goOn : Cond.instanceMethod yX4_goOn ∈ wA ∧ Cond.selects RX4 yX4_goOn yX4_goOn ∈ wA ∧ Cond.initialized RX4 ∈ wA := ⟨tA 505 (by decide +kernel) rfl, tAp 15 (by decide +kernel), tA 6 (by decide +kernel) rfl⟩
set_option maxRecDepth 100000 in
theorem kc_X5_init : Cond.code yX5_init cX5_init 1 none ∈ wA := tA 26 (by decide +kernel) rfl
set_option maxRecDepth 100000 in
theorem ki_X5_init : Cond.instanceMethod yX5_init ∈ wA ∧ Cond.initialized RX5 ∈ wA := ⟨tA 25 (by decide +kernel) rfl, tA 2 (by decide +kernel) rfl⟩
set_option maxRecDepth 100000 in
theorem kc_X5_read : Cond.code yX5_read cX5_read 4 (some .int) ∈ wA := tA 284 (by decide +kernel) rfl
set_option maxRecDepth 100000 in
theorem ki_X5_read : Cond.instanceMethod yX5_read ∈ wA ∧ Cond.selects RX5 yX5_read yX5_read ∈ wA ∧ Cond.initialized RX5 ∈ wA := ⟨tA 282 (by decide +kernel) rfl, tA 283 (by decide +kernel) rfl, tA 2 (by decide +kernel) rfl⟩
set_option maxRecDepth 100000 in
theorem kc_X5_takeIron : Cond.code yX5_takeIron cX5_takeIron 2 (some .boolean) ∈ wA := tA 292 (by decide +kernel) rfl
set_option maxRecDepth 100000 in
theorem ki_X5_takeIron : Cond.instanceMethod yX5_takeIron ∈ wA ∧ Cond.selects RX5 yX5_takeIron yX5_takeIron ∈ wA ∧ Cond.initialized RX5 ∈ wA := ⟨tA 291 (by decide +kernel) rfl, tAp 5 (by decide +kernel), tA 2 (by decide +kernel) rfl⟩
set_option maxRecDepth 100000 in
theorem kc_X5_takeMan : Cond.code yX5_takeMan cX5_takeMan 3 (some .boolean) ∈ wA := tA 304 (by decide +kernel) rfl
set_option maxRecDepth 100000 in
theorem ki_X5_takeMan : Cond.instanceMethod yX5_takeMan ∈ wA ∧ Cond.selects RX5 yX5_takeMan yX5_takeMan ∈ wA ∧ Cond.initialized RX5 ∈ wA := ⟨tA 303 (by decide +kernel) rfl, tAp 8 (by decide +kernel), tA 2 (by decide +kernel) rfl⟩
set_option maxRecDepth 100000 in
theorem kc_X5_takeFigure : Cond.code yX5_takeFigure cX5_takeFigure 5 (some .boolean) ∈ wA := tA 296 (by decide +kernel) rfl
set_option maxRecDepth 100000 in
theorem ki_X5_takeFigure : Cond.instanceMethod yX5_takeFigure ∈ wA ∧ Cond.selects RX5 yX5_takeFigure yX5_takeFigure ∈ wA ∧ Cond.initialized RX5 ∈ wA := ⟨tA 295 (by decide +kernel) rfl, tAp 6 (by decide +kernel), tA 2 (by decide +kernel) rfl⟩
set_option maxRecDepth 100000 in
theorem kc_X5_take : Cond.code yX5_take cX5_take 2 none ∈ wA := tA 300 (by decide +kernel) rfl
set_option maxRecDepth 100000 in
theorem ki_X5_take : Cond.instanceMethod yX5_take ∈ wA ∧ Cond.selects RX5 yX5_take yX5_take ∈ wA ∧ Cond.initialized RX5 ∈ wA := ⟨tA 299 (by decide +kernel) rfl, tAp 7 (by decide +kernel), tA 2 (by decide +kernel) rfl⟩
set_option maxRecDepth 100000 in
theorem kc_X5_passBlanks : Cond.code yX5_passBlanks cX5_passBlanks 2 none ∈ wA := tA 288 (by decide +kernel) rfl
set_option maxRecDepth 100000 in
theorem ki_X5_passBlanks : Cond.instanceMethod yX5_passBlanks ∈ wA ∧ Cond.selects RX5 yX5_passBlanks yX5_passBlanks ∈ wA ∧ Cond.initialized RX5 ∈ wA := ⟨tA 287 (by decide +kernel) rfl, tAp 4 (by decide +kernel), tA 2 (by decide +kernel) rfl⟩
set_option maxRecDepth 100000 in
theorem kc_X5_kindOf : Cond.code yX5_kindOf cX5_kindOf 1 (some .int) ∈ wA := tA 307 (by decide +kernel) rfl
set_option maxRecDepth 100000 in
theorem ki_X5_kindOf : Cond.static yX5_kindOf ∈ wA ∧ Cond.initialized RX5 ∈ wA := ⟨tA 306 (by decide +kernel) rfl, tA 2 (by decide +kernel) rfl⟩
set_option maxRecDepth 100000 in
theorem kc_X6_init : Cond.code yX6_init cX6_init 2 none ∈ wA := tA 179 (by decide +kernel) rfl
set_option maxRecDepth 100000 in
theorem ki_X6_init : Cond.instanceMethod yX6_init ∈ wA ∧ Cond.initialized RX6 ∈ wA := ⟨tA 178 (by decide +kernel) rfl, tA 8 (by decide +kernel) rfl⟩
set_option maxRecDepth 100000 in
theorem kc_X6_isMissing : Cond.code yX6_isMissing cX6_isMissing 1 (some .boolean) ∈ wA := tA 268 (by decide +kernel) rfl
set_option maxRecDepth 100000 in
theorem ki_X6_isMissing : Cond.instanceMethod yX6_isMissing ∈ wA ∧ Cond.selects RX6 yX6_isMissing yX6_isMissing ∈ wA ∧ Cond.initialized RX6 ∈ wA := ⟨tA 266 (by decide +kernel) rfl, tA 267 (by decide +kernel) rfl, tA 8 (by decide +kernel) rfl⟩
set_option maxRecDepth 100000 in
theorem kc_X6_layOut : Cond.code yX6_layOut cX6_layOut 4 none ∈ wA := tA 252 (by decide +kernel) rfl
set_option maxRecDepth 100000 in
theorem ki_X6_layOut : Cond.instanceMethod yX6_layOut ∈ wA ∧ Cond.selects RX6 yX6_layOut yX6_layOut ∈ wA ∧ Cond.initialized RX6 ∈ wA := ⟨tA 250 (by decide +kernel) rfl, tA 251 (by decide +kernel) rfl, tA 8 (by decide +kernel) rfl⟩
set_option maxRecDepth 100000 in
theorem kc_X6_digestOnto : Cond.code yX6_digestOnto cX6_digestOnto 6 (some .long) ∈ wA := tA 685 (by decide +kernel) rfl
set_option maxRecDepth 100000 in
theorem ki_X6_digestOnto : Cond.instanceMethod yX6_digestOnto ∈ wA ∧ Cond.selects RX6 yX6_digestOnto yX6_digestOnto ∈ wA ∧ Cond.initialized RX6 ∈ wA := ⟨tA 683 (by decide +kernel) rfl, tA 684 (by decide +kernel) rfl, tA 8 (by decide +kernel) rfl⟩
set_option maxRecDepth 100000 in
theorem kc_X7_init : Cond.code yX7_init cX7_init 2 none ∈ wA := tA 16 (by decide +kernel) rfl
set_option maxRecDepth 100000 in
theorem ki_X7_init : Cond.instanceMethod yX7_init ∈ wA ∧ Cond.initialized RX7 ∈ wA := ⟨tA 15 (by decide +kernel) rfl, tA 1 (by decide +kernel) rfl⟩
set_option maxRecDepth 100000 in
theorem kc_X7_row : Cond.code yX7_row cX7_row 3 (some .int) ∈ wA := tA 237 (by decide +kernel) rfl
set_option maxRecDepth 100000 in
theorem ki_X7_row : Cond.instanceMethod yX7_row ∈ wA ∧ Cond.selects RX7 yX7_row yX7_row ∈ wA ∧ Cond.initialized RX7 ∈ wA := ⟨tA 235 (by decide +kernel) rfl, tA 236 (by decide +kernel) rfl, tA 1 (by decide +kernel) rfl⟩
set_option maxRecDepth 100000 in
theorem kc_X7_lay : Cond.code yX7_lay cX7_lay 5 (some .int) ∈ wA := tA 256 (by decide +kernel) rfl
set_option maxRecDepth 100000 in
theorem ki_X7_lay : Cond.instanceMethod yX7_lay ∈ wA ∧ Cond.selects RX7 yX7_lay yX7_lay ∈ wA ∧ Cond.initialized RX7 ∈ wA := ⟨tA 254 (by decide +kernel) rfl, tA 255 (by decide +kernel) rfl, tA 1 (by decide +kernel) rfl⟩
set_option maxRecDepth 100000 in
theorem kc_X7_at : Cond.code yX7_at cX7_at 4 (some .int) ∈ wA := tA 272 (by decide +kernel) rfl
set_option maxRecDepth 100000 in
theorem ki_X7_at : Cond.instanceMethod yX7_at ∈ wA ∧ Cond.selects RX7 yX7_at yX7_at ∈ wA ∧ Cond.initialized RX7 ∈ wA := ⟨tA 270 (by decide +kernel) rfl, tA 271 (by decide +kernel) rfl, tA 1 (by decide +kernel) rfl⟩
set_option maxRecDepth 100000 in
theorem kc_X7_tear : Cond.code yX7_tear cX7_tear 3 (some .int) ∈ wA := tA 276 (by decide +kernel) rfl
set_option maxRecDepth 100000 in
theorem ki_X7_tear : Cond.instanceMethod yX7_tear ∈ wA ∧ Cond.selects RX7 yX7_tear yX7_tear ∈ wA ∧ Cond.initialized RX7 ∈ wA := ⟨tA 274 (by decide +kernel) rfl, tA 275 (by decide +kernel) rfl, tA 1 (by decide +kernel) rfl⟩
set_option maxRecDepth 100000 in
theorem kc_X7_text : Cond.code yX7_text cX7_text 3 (some .int) ∈ wA := tA 701 (by decide +kernel) rfl
set_option maxRecDepth 100000 in
theorem ki_X7_text : Cond.instanceMethod yX7_text ∈ wA ∧ Cond.selects RX7 yX7_text yX7_text ∈ wA ∧ Cond.initialized RX7 ∈ wA := ⟨tA 699 (by decide +kernel) rfl, tA 700 (by decide +kernel) rfl, tA 1 (by decide +kernel) rfl⟩
set_option maxRecDepth 100000 in
theorem kc_X7_put : Cond.code yX7_put cX7_put 6 (some .int) ∈ wA := tA 705 (by decide +kernel) rfl
set_option maxRecDepth 100000 in
theorem ki_X7_put : Cond.instanceMethod yX7_put ∈ wA ∧ Cond.selects RX7 yX7_put yX7_put ∈ wA ∧ Cond.initialized RX7 ∈ wA := ⟨tA 703 (by decide +kernel) rfl, tA 704 (by decide +kernel) rfl, tA 1 (by decide +kernel) rfl⟩
set_option maxRecDepth 100000 in
theorem kc_X7_fault : Cond.code yX7_fault cX7_fault 3 (some .int) ∈ wA := tA 712 (by decide +kernel) rfl
set_option maxRecDepth 100000 in
theorem ki_X7_fault : Cond.instanceMethod yX7_fault ∈ wA ∧ Cond.selects RX7 yX7_fault yX7_fault ∈ wA ∧ Cond.initialized RX7 ∈ wA := ⟨tA 710 (by decide +kernel) rfl, tA 711 (by decide +kernel) rfl, tA 1 (by decide +kernel) rfl⟩
set_option maxRecDepth 100000 in
theorem kc_X7_court : Cond.code yX7_court cX7_court 4 (some .int) ∈ wA := tA 280 (by decide +kernel) rfl
set_option maxRecDepth 100000 in
theorem ki_X7_court : Cond.instanceMethod yX7_court ∈ wA ∧ Cond.selects RX7 yX7_court yX7_court ∈ wA ∧ Cond.initialized RX7 ∈ wA := ⟨tA 278 (by decide +kernel) rfl, tA 279 (by decide +kernel) rfl, tA 1 (by decide +kernel) rfl⟩
set_option maxRecDepth 100000 in
theorem kc_X7_man : Cond.code yX7_man cX7_man 3 (some .int) ∈ wA := tA 752 (by decide +kernel) rfl
set_option maxRecDepth 100000 in
theorem ki_X7_man : Cond.instanceMethod yX7_man ∈ wA ∧ Cond.selects RX7 yX7_man yX7_man ∈ wA ∧ Cond.initialized RX7 ∈ wA := ⟨tA 750 (by decide +kernel) rfl, tA 751 (by decide +kernel) rfl, tA 1 (by decide +kernel) rfl⟩
set_option maxRecDepth 100000 in
theorem kc_X7_heat : Cond.code yX7_heat cX7_heat 2 (some .int) ∈ wA := tA 380 (by decide +kernel) rfl
set_option maxRecDepth 100000 in
theorem ki_X7_heat : Cond.instanceMethod yX7_heat ∈ wA ∧ Cond.selects RX7 yX7_heat yX7_heat ∈ wA ∧ Cond.initialized RX7 ∈ wA := ⟨tA 378 (by decide +kernel) rfl, tA 379 (by decide +kernel) rfl, tA 1 (by decide +kernel) rfl⟩
set_option maxRecDepth 100000 in
theorem kc_X7_salve : Cond.code yX7_salve cX7_salve 3 (some .int) ∈ wA := tA 397 (by decide +kernel) rfl
set_option maxRecDepth 100000 in
theorem ki_X7_salve : Cond.instanceMethod yX7_salve ∈ wA ∧ Cond.selects RX7 yX7_salve yX7_salve ∈ wA ∧ Cond.initialized RX7 ∈ wA := ⟨tA 395 (by decide +kernel) rfl, tA 396 (by decide +kernel) rfl, tA 1 (by decide +kernel) rfl⟩
set_option maxRecDepth 100000 in
theorem kc_X7_trial : Cond.code yX7_trial cX7_trial 3 (some .int) ∈ wA := tA 409 (by decide +kernel) rfl
set_option maxRecDepth 100000 in
theorem ki_X7_trial : Cond.instanceMethod yX7_trial ∈ wA ∧ Cond.selects RX7 yX7_trial yX7_trial ∈ wA ∧ Cond.initialized RX7 ∈ wA := ⟨tA 407 (by decide +kernel) rfl, tA 408 (by decide +kernel) rfl, tA 1 (by decide +kernel) rfl⟩
set_option maxRecDepth 100000 in
theorem kc_X7_undo : Cond.code yX7_undo cX7_undo 3 (some .int) ∈ wA := tA 413 (by decide +kernel) rfl
set_option maxRecDepth 100000 in
theorem ki_X7_undo : Cond.instanceMethod yX7_undo ∈ wA ∧ Cond.selects RX7 yX7_undo yX7_undo ∈ wA ∧ Cond.initialized RX7 ∈ wA := ⟨tA 411 (by decide +kernel) rfl, tA 412 (by decide +kernel) rfl, tA 1 (by decide +kernel) rfl⟩
set_option maxRecDepth 100000 in
theorem kc_X7_keep : Cond.code yX7_keep cX7_keep 2 (some .int) ∈ wA := tA 418 (by decide +kernel) rfl
set_option maxRecDepth 100000 in
theorem ki_X7_keep : Cond.instanceMethod yX7_keep ∈ wA ∧ Cond.selects RX7 yX7_keep yX7_keep ∈ wA ∧ Cond.initialized RX7 ∈ wA := ⟨tA 416 (by decide +kernel) rfl, tA 417 (by decide +kernel) rfl, tA 1 (by decide +kernel) rfl⟩
set_option maxRecDepth 100000 in
theorem kc_X7_on : Cond.code yX7_on cX7_on 2 (some .int) ∈ wA := tA 429 (by decide +kernel) rfl
set_option maxRecDepth 100000 in
theorem ki_X7_on : Cond.instanceMethod yX7_on ∈ wA ∧ Cond.selects RX7 yX7_on yX7_on ∈ wA ∧ Cond.initialized RX7 ∈ wA := ⟨tA 427 (by decide +kernel) rfl, tA 428 (by decide +kernel) rfl, tA 1 (by decide +kernel) rfl⟩
set_option maxRecDepth 100000 in
theorem kc_X7_comes : Cond.code yX7_comes cX7_comes 6 (some .int) ∈ wA := tA 433 (by decide +kernel) rfl
set_option maxRecDepth 100000 in
theorem ki_X7_comes : Cond.instanceMethod yX7_comes ∈ wA ∧ Cond.selects RX7 yX7_comes yX7_comes ∈ wA ∧ Cond.initialized RX7 ∈ wA := ⟨tA 431 (by decide +kernel) rfl, tA 432 (by decide +kernel) rfl, tA 1 (by decide +kernel) rfl⟩
set_option maxRecDepth 100000 in
theorem kc_X7_wrong : Cond.code yX7_wrong cX7_wrong 3 (some .int) ∈ wA := tA 438 (by decide +kernel) rfl
set_option maxRecDepth 100000 in
theorem ki_X7_wrong : Cond.instanceMethod yX7_wrong ∈ wA ∧ Cond.selects RX7 yX7_wrong yX7_wrong ∈ wA ∧ Cond.initialized RX7 ∈ wA := ⟨tA 436 (by decide +kernel) rfl, tA 437 (by decide +kernel) rfl, tA 1 (by decide +kernel) rfl⟩
set_option maxRecDepth 100000 in
theorem kc_X7_best : Cond.code yX7_best cX7_best 5 (some .int) ∈ wA := tA 459 (by decide +kernel) rfl
set_option maxRecDepth 100000 in
theorem ki_X7_best : Cond.instanceMethod yX7_best ∈ wA ∧ Cond.selects RX7 yX7_best yX7_best ∈ wA ∧ Cond.initialized RX7 ∈ wA := ⟨tA 457 (by decide +kernel) rfl, tA 458 (by decide +kernel) rfl, tA 1 (by decide +kernel) rfl⟩
set_option maxRecDepth 100000 in
theorem kc_X7_heats : Cond.code yX7_heats cX7_heats 3 (some .int) ∈ wA := tA 463 (by decide +kernel) rfl
set_option maxRecDepth 100000 in
theorem ki_X7_heats : Cond.instanceMethod yX7_heats ∈ wA ∧ Cond.selects RX7 yX7_heats yX7_heats ∈ wA ∧ Cond.initialized RX7 ∈ wA := ⟨tA 461 (by decide +kernel) rfl, tA 462 (by decide +kernel) rfl, tA 1 (by decide +kernel) rfl⟩
set_option maxRecDepth 100000 in
theorem kc_X7_tells : Cond.code yX7_tells cX7_tells 7 (some .int) ∈ wA := tA 471 (by decide +kernel) rfl
set_option maxRecDepth 100000 in
theorem ki_X7_tells : Cond.instanceMethod yX7_tells ∈ wA ∧ Cond.selects RX7 yX7_tells yX7_tells ∈ wA ∧ Cond.initialized RX7 ∈ wA := ⟨tA 469 (by decide +kernel) rfl, tA 470 (by decide +kernel) rfl, tA 1 (by decide +kernel) rfl⟩
set_option maxRecDepth 100000 in
theorem kc_X7_order : Cond.code yX7_order cX7_order 3 (some .int) ∈ wA := tA 482 (by decide +kernel) rfl
set_option maxRecDepth 100000 in
theorem ki_X7_order : Cond.instanceMethod yX7_order ∈ wA ∧ Cond.selects RX7 yX7_order yX7_order ∈ wA ∧ Cond.initialized RX7 ∈ wA := ⟨tA 480 (by decide +kernel) rfl, tA 481 (by decide +kernel) rfl, tA 1 (by decide +kernel) rfl⟩
set_option maxRecDepth 100000 in
theorem kc_X7_tried : Cond.code yX7_tried cX7_tried 11 (some .int) ∈ wA := tA 516 (by decide +kernel) rfl
set_option maxRecDepth 100000 in
theorem ki_X7_tried : Cond.instanceMethod yX7_tried ∈ wA ∧ Cond.selects RX7 yX7_tried yX7_tried ∈ wA ∧ Cond.initialized RX7 ∈ wA := ⟨tA 514 (by decide +kernel) rfl, tA 515 (by decide +kernel) rfl, tA 1 (by decide +kernel) rfl⟩
set_option maxRecDepth 100000 in
theorem kc_X7_least : Cond.code yX7_least cX7_least 6 (some .int) ∈ wA := tA 528 (by decide +kernel) rfl
set_option maxRecDepth 100000 in
theorem ki_X7_least : Cond.instanceMethod yX7_least ∈ wA ∧ Cond.selects RX7 yX7_least yX7_least ∈ wA ∧ Cond.initialized RX7 ∈ wA := ⟨tA 526 (by decide +kernel) rfl, tA 527 (by decide +kernel) rfl, tA 1 (by decide +kernel) rfl⟩
set_option maxRecDepth 100000 in
theorem kc_X7_fits : Cond.code yX7_fits cX7_fits 4 (some .int) ∈ wA := tA 540 (by decide +kernel) rfl
set_option maxRecDepth 100000 in
theorem ki_X7_fits : Cond.instanceMethod yX7_fits ∈ wA ∧ Cond.selects RX7 yX7_fits yX7_fits ∈ wA ∧ Cond.initialized RX7 ∈ wA := ⟨tA 538 (by decide +kernel) rfl, tA 539 (by decide +kernel) rfl, tA 1 (by decide +kernel) rfl⟩
set_option maxRecDepth 100000 in
theorem kc_X7_ask : Cond.code yX7_ask cX7_ask 8 (some .int) ∈ wA := tA 558 (by decide +kernel) rfl
set_option maxRecDepth 100000 in
theorem ki_X7_ask : Cond.instanceMethod yX7_ask ∈ wA ∧ Cond.selects RX7 yX7_ask yX7_ask ∈ wA ∧ Cond.initialized RX7 ∈ wA := ⟨tA 556 (by decide +kernel) rfl, tA 557 (by decide +kernel) rfl, tA 1 (by decide +kernel) rfl⟩
set_option maxRecDepth 100000 in
theorem kc_X7_hands : Cond.code yX7_hands cX7_hands 7 (some .int) ∈ wA := tA 567 (by decide +kernel) rfl
set_option maxRecDepth 100000 in
theorem ki_X7_hands : Cond.instanceMethod yX7_hands ∈ wA ∧ Cond.selects RX7 yX7_hands yX7_hands ∈ wA ∧ Cond.initialized RX7 ∈ wA := ⟨tA 565 (by decide +kernel) rfl, tA 566 (by decide +kernel) rfl, tA 1 (by decide +kernel) rfl⟩
set_option maxRecDepth 100000 in
theorem kc_X7_kinds : Cond.code yX7_kinds cX7_kinds 7 (some .int) ∈ wA := tA 583 (by decide +kernel) rfl
set_option maxRecDepth 100000 in
theorem ki_X7_kinds : Cond.instanceMethod yX7_kinds ∈ wA ∧ Cond.selects RX7 yX7_kinds yX7_kinds ∈ wA ∧ Cond.initialized RX7 ∈ wA := ⟨tA 581 (by decide +kernel) rfl, tA 582 (by decide +kernel) rfl, tA 1 (by decide +kernel) rfl⟩
set_option maxRecDepth 100000 in
theorem kc_X7_duel : Cond.code yX7_duel cX7_duel 2 (some .int) ∈ wA := tA 587 (by decide +kernel) rfl
set_option maxRecDepth 100000 in
theorem ki_X7_duel : Cond.instanceMethod yX7_duel ∈ wA ∧ Cond.selects RX7 yX7_duel yX7_duel ∈ wA ∧ Cond.initialized RX7 ∈ wA := ⟨tA 585 (by decide +kernel) rfl, tA 586 (by decide +kernel) rfl, tA 1 (by decide +kernel) rfl⟩
set_option maxRecDepth 100000 in
theorem kc_X7_odds : Cond.code yX7_odds cX7_odds 9 (some .int) ∈ wA := tA 606 (by decide +kernel) rfl
set_option maxRecDepth 100000 in
theorem ki_X7_odds : Cond.instanceMethod yX7_odds ∈ wA ∧ Cond.selects RX7 yX7_odds yX7_odds ∈ wA ∧ Cond.initialized RX7 ∈ wA := ⟨tA 604 (by decide +kernel) rfl, tA 605 (by decide +kernel) rfl, tA 1 (by decide +kernel) rfl⟩
set_option maxRecDepth 100000 in
theorem kc_X7_mid : Cond.code yX7_mid cX7_mid 7 (some .int) ∈ wA := tA 619 (by decide +kernel) rfl
set_option maxRecDepth 100000 in
theorem ki_X7_mid : Cond.instanceMethod yX7_mid ∈ wA ∧ Cond.selects RX7 yX7_mid yX7_mid ∈ wA ∧ Cond.initialized RX7 ∈ wA := ⟨tA 617 (by decide +kernel) rfl, tA 618 (by decide +kernel) rfl, tA 1 (by decide +kernel) rfl⟩
set_option maxRecDepth 100000 in
theorem kc_X7_lots : Cond.code yX7_lots cX7_lots 9 (some .int) ∈ wA := tA 624 (by decide +kernel) rfl
set_option maxRecDepth 100000 in
theorem ki_X7_lots : Cond.instanceMethod yX7_lots ∈ wA ∧ Cond.selects RX7 yX7_lots yX7_lots ∈ wA ∧ Cond.initialized RX7 ∈ wA := ⟨tA 622 (by decide +kernel) rfl, tA 623 (by decide +kernel) rfl, tA 1 (by decide +kernel) rfl⟩
set_option maxRecDepth 100000 in
theorem kc_X7_asked : Cond.code yX7_asked cX7_asked 1 (some .int) ∈ wA := tA 642 (by decide +kernel) rfl
set_option maxRecDepth 100000 in
theorem ki_X7_asked : Cond.instanceMethod yX7_asked ∈ wA ∧ Cond.selects RX7 yX7_asked yX7_asked ∈ wA ∧ Cond.initialized RX7 ∈ wA := ⟨tA 640 (by decide +kernel) rfl, tA 641 (by decide +kernel) rfl, tA 1 (by decide +kernel) rfl⟩
set_option maxRecDepth 100000 in
theorem kc_X7_upper : Cond.code yX7_upper cX7_upper 1 (some .long) ∈ wA := tA 646 (by decide +kernel) rfl
set_option maxRecDepth 100000 in
theorem ki_X7_upper : Cond.instanceMethod yX7_upper ∈ wA ∧ Cond.selects RX7 yX7_upper yX7_upper ∈ wA ∧ Cond.initialized RX7 ∈ wA := ⟨tA 644 (by decide +kernel) rfl, tA 645 (by decide +kernel) rfl, tA 1 (by decide +kernel) rfl⟩
set_option maxRecDepth 100000 in
theorem kc_X7_lower : Cond.code yX7_lower cX7_lower 1 (some .long) ∈ wA := tA 650 (by decide +kernel) rfl
set_option maxRecDepth 100000 in
theorem ki_X7_lower : Cond.instanceMethod yX7_lower ∈ wA ∧ Cond.selects RX7 yX7_lower yX7_lower ∈ wA ∧ Cond.initialized RX7 ∈ wA := ⟨tA 648 (by decide +kernel) rfl, tA 649 (by decide +kernel) rfl, tA 1 (by decide +kernel) rfl⟩
set_option maxRecDepth 100000 in
theorem kc_X7_count : Cond.code yX7_count cX7_count 2 (some .int) ∈ wA := tA 654 (by decide +kernel) rfl
set_option maxRecDepth 100000 in
theorem ki_X7_count : Cond.instanceMethod yX7_count ∈ wA ∧ Cond.selects RX7 yX7_count yX7_count ∈ wA ∧ Cond.initialized RX7 ∈ wA := ⟨tA 652 (by decide +kernel) rfl, tA 653 (by decide +kernel) rfl, tA 1 (by decide +kernel) rfl⟩
set_option maxRecDepth 100000 in
theorem kc_X7_digest : Cond.code yX7_digest cX7_digest 5 (some .long) ∈ wA := tA 674 (by decide +kernel) rfl
set_option maxRecDepth 100000 in
theorem ki_X7_digest : Cond.instanceMethod yX7_digest ∈ wA ∧ Cond.selects RX7 yX7_digest yX7_digest ∈ wA ∧ Cond.initialized RX7 ∈ wA := ⟨tA 672 (by decide +kernel) rfl, tA 673 (by decide +kernel) rfl, tA 1 (by decide +kernel) rfl⟩
set_option maxRecDepth 100000 in
theorem kc_X7_found : Cond.code yX7_found cX7_found 2 (some .int) ∈ wA := tA 248 (by decide +kernel) rfl
set_option maxRecDepth 100000 in
theorem ki_X7_found : Cond.instanceMethod yX7_found ∈ wA ∧ Cond.selects RX7 yX7_found yX7_found ∈ wA ∧ Cond.initialized RX7 ∈ wA := ⟨tA 247 (by decide +kernel) rfl, tAp 1 (by decide +kernel), tA 1 (by decide +kernel) rfl⟩
set_option maxRecDepth 100000 in
theorem kc_X7_isOneOf : Cond.code yX7_isOneOf cX7_isOneOf 2 (some .boolean) ∈ wA := tA 244 (by decide +kernel) rfl
set_option maxRecDepth 100000 in
theorem ki_X7_isOneOf : Cond.static yX7_isOneOf ∈ wA ∧ Cond.initialized RX7 ∈ wA := ⟨tA 243 (by decide +kernel) rfl, tA 1 (by decide +kernel) rfl⟩
set_option maxRecDepth 100000 in
theorem kc_X7_isMan : Cond.code yX7_isMan cX7_isMan 2 (some .boolean) ∈ wA := tA 401 (by decide +kernel) rfl
set_option maxRecDepth 100000 in
theorem ki_X7_isMan : Cond.instanceMethod yX7_isMan ∈ wA ∧ Cond.selects RX7 yX7_isMan yX7_isMan ∈ wA ∧ Cond.initialized RX7 ∈ wA := ⟨tA 400 (by decide +kernel) rfl, tAp 10 (by decide +kernel), tA 1 (by decide +kernel) rfl⟩
set_option maxRecDepth 100000 in
theorem kc_X7_isKeptPlace : Cond.code yX7_isKeptPlace cX7_isKeptPlace 1 (some .boolean) ∈ wA := tA 421 (by decide +kernel) rfl
set_option maxRecDepth 100000 in
theorem ki_X7_isKeptPlace : Cond.static yX7_isKeptPlace ∈ wA ∧ Cond.initialized RX7 ∈ wA := ⟨tA 420 (by decide +kernel) rfl, tA 1 (by decide +kernel) rfl⟩
set_option maxRecDepth 100000 in
theorem kc_X7_missingRefusal : Cond.code yX7_missingRefusal cX7_missingRefusal 3 (some .int) ∈ wA := tA 264 (by decide +kernel) rfl
set_option maxRecDepth 100000 in
theorem ki_X7_missingRefusal : Cond.instanceMethod yX7_missingRefusal ∈ wA ∧ Cond.selects RX7 yX7_missingRefusal yX7_missingRefusal ∈ wA ∧ Cond.initialized RX7 ∈ wA := ⟨tA 263 (by decide +kernel) rfl, tAp 3 (by decide +kernel), tA 1 (by decide +kernel) rfl⟩
set_option maxRecDepth 100000 in
theorem kc_X7_placeRefusal : Cond.code yX7_placeRefusal cX7_placeRefusal 5 (some .int) ∈ wA := tA 260 (by decide +kernel) rfl
set_option maxRecDepth 100000 in
theorem ki_X7_placeRefusal : Cond.instanceMethod yX7_placeRefusal ∈ wA ∧ Cond.selects RX7 yX7_placeRefusal yX7_placeRefusal ∈ wA ∧ Cond.initialized RX7 ∈ wA := ⟨tA 259 (by decide +kernel) rfl, tAp 2 (by decide +kernel), tA 1 (by decide +kernel) rfl⟩
set_option maxRecDepth 100000 in
theorem kc_X7_laidOut : Cond.code yX7_laidOut cX7_laidOut 5 (some .int) ∈ wA := tA 241 (by decide +kernel) rfl
set_option maxRecDepth 100000 in
theorem ki_X7_laidOut : Cond.instanceMethod yX7_laidOut ∈ wA ∧ Cond.selects RX7 yX7_laidOut yX7_laidOut ∈ wA ∧ Cond.initialized RX7 ∈ wA := ⟨tA 240 (by decide +kernel) rfl, tAp 0 (by decide +kernel), tA 1 (by decide +kernel) rfl⟩
set_option maxRecDepth 100000 in
theorem kc_X7_rowRefusal : Cond.code yX7_rowRefusal cX7_rowRefusal 2 (some .int) ∈ wA := tA 486 (by decide +kernel) rfl
set_option maxRecDepth 100000 in
theorem ki_X7_rowRefusal : Cond.instanceMethod yX7_rowRefusal ∈ wA ∧ Cond.selects RX7 yX7_rowRefusal yX7_rowRefusal ∈ wA ∧ Cond.initialized RX7 ∈ wA := ⟨tA 485 (by decide +kernel) rfl, tAp 14 (by decide +kernel), tA 1 (by decide +kernel) rfl⟩
set_option maxRecDepth 100000 in
theorem kc_X7_heatRefusal : Cond.code yX7_heatRefusal cX7_heatRefusal 2 (some .int) ∈ wA := tA 442 (by decide +kernel) rfl
set_option maxRecDepth 100000 in
theorem ki_X7_heatRefusal : Cond.instanceMethod yX7_heatRefusal ∈ wA ∧ Cond.selects RX7 yX7_heatRefusal yX7_heatRefusal ∈ wA ∧ Cond.initialized RX7 ∈ wA := ⟨tA 441 (by decide +kernel) rfl, tAp 11 (by decide +kernel), tA 1 (by decide +kernel) rfl⟩
set_option maxRecDepth 100000 in
theorem kc_X7_chanceRefusal : Cond.code yX7_chanceRefusal cX7_chanceRefusal 2 (some .int) ∈ wA := tA 610 (by decide +kernel) rfl
set_option maxRecDepth 100000 in
theorem ki_X7_chanceRefusal : Cond.instanceMethod yX7_chanceRefusal ∈ wA ∧ Cond.selects RX7 yX7_chanceRefusal yX7_chanceRefusal ∈ wA ∧ Cond.initialized RX7 ∈ wA := ⟨tA 609 (by decide +kernel) rfl, tAp 20 (by decide +kernel), tA 1 (by decide +kernel) rfl⟩
set_option maxRecDepth 100000 in
theorem kc_X7_trialsRefusal : Cond.code yX7_trialsRefusal cX7_trialsRefusal 4 (some .int) ∈ wA := tA 544 (by decide +kernel) rfl
set_option maxRecDepth 100000 in
theorem ki_X7_trialsRefusal : Cond.instanceMethod yX7_trialsRefusal ∈ wA ∧ Cond.selects RX7 yX7_trialsRefusal yX7_trialsRefusal ∈ wA ∧ Cond.initialized RX7 ∈ wA := ⟨tA 543 (by decide +kernel) rfl, tAp 17 (by decide +kernel), tA 1 (by decide +kernel) rfl⟩
set_option maxRecDepth 100000 in
theorem kc_X7_suppositionRefusal : Cond.code yX7_suppositionRefusal cX7_suppositionRefusal 4 (some .int) ∈ wA := tA 571 (by decide +kernel) rfl
set_option maxRecDepth 100000 in
theorem ki_X7_suppositionRefusal : Cond.instanceMethod yX7_suppositionRefusal ∈ wA ∧ Cond.selects RX7 yX7_suppositionRefusal yX7_suppositionRefusal ∈ wA ∧ Cond.initialized RX7 ∈ wA := ⟨tA 570 (by decide +kernel) rfl, tAp 18 (by decide +kernel), tA 1 (by decide +kernel) rfl⟩
set_option maxRecDepth 100000 in
theorem kc_X7_pairsFinding : Cond.code yX7_pairsFinding cX7_pairsFinding 4 (some .int) ∈ wA := tA 547 (by decide +kernel) rfl
set_option maxRecDepth 100000 in
theorem ki_X7_pairsFinding : Cond.static yX7_pairsFinding ∈ wA ∧ Cond.initialized RX7 ∈ wA := ⟨tA 546 (by decide +kernel) rfl, tA 1 (by decide +kernel) rfl⟩
set_option maxRecDepth 100000 in
theorem kc_X7_orderFinding : Cond.code yX7_orderFinding cX7_orderFinding 5 (some .int) ∈ wA := tA 520 (by decide +kernel) rfl
set_option maxRecDepth 100000 in
theorem ki_X7_orderFinding : Cond.instanceMethod yX7_orderFinding ∈ wA ∧ Cond.selects RX7 yX7_orderFinding yX7_orderFinding ∈ wA ∧ Cond.initialized RX7 ∈ wA := ⟨tA 519 (by decide +kernel) rfl, tAp 16 (by decide +kernel), tA 1 (by decide +kernel) rfl⟩
set_option maxRecDepth 100000 in
theorem kc_X7_tellFraction : Cond.code yX7_tellFraction cX7_tellFraction 7 none ∈ wA := tA 475 (by decide +kernel) rfl
set_option maxRecDepth 100000 in
theorem ki_X7_tellFraction : Cond.instanceMethod yX7_tellFraction ∈ wA ∧ Cond.selects RX7 yX7_tellFraction yX7_tellFraction ∈ wA ∧ Cond.initialized RX7 ∈ wA := ⟨tA 474 (by decide +kernel) rfl, tAp 13 (by decide +kernel), tA 1 (by decide +kernel) rfl⟩
set_option maxRecDepth 100000 in
theorem kc_X7_commonDivisor : Cond.code yX7_commonDivisor cX7_commonDivisor 11 (some .long) ∈ wA := tA 478 (by decide +kernel) rfl
set_option maxRecDepth 100000 in
theorem ki_X7_commonDivisor : Cond.static yX7_commonDivisor ∈ wA ∧ Cond.initialized RX7 ∈ wA := ⟨tA 477 (by decide +kernel) rfl, tA 1 (by decide +kernel) rfl⟩
set_option maxRecDepth 100000 in
theorem kc_X7_howManyThere : Cond.code yX7_howManyThere cX7_howManyThere 3 (some .int) ∈ wA := tA 666 (by decide +kernel) rfl
set_option maxRecDepth 100000 in
theorem ki_X7_howManyThere : Cond.static yX7_howManyThere ∈ wA ∧ Cond.initialized RX7 ∈ wA := ⟨tA 665 (by decide +kernel) rfl, tA 1 (by decide +kernel) rfl⟩
set_option maxRecDepth 100000 in
theorem kc_X7_courtsKept : Cond.code yX7_courtsKept cX7_courtsKept 3 (some .int) ∈ wA := tA 670 (by decide +kernel) rfl
set_option maxRecDepth 100000 in
theorem ki_X7_courtsKept : Cond.instanceMethod yX7_courtsKept ∈ wA ∧ Cond.selects RX7 yX7_courtsKept yX7_courtsKept ∈ wA ∧ Cond.initialized RX7 ∈ wA := ⟨tA 669 (by decide +kernel) rfl, tAp 21 (by decide +kernel), tA 1 (by decide +kernel) rfl⟩
set_option maxRecDepth 100000 in
theorem kc_J6_bitCount_0f7a4 : Cond.code yJ6_bitCount_0f7a4 cJ6_bitCount_0f7a4 1 (some .int) ∈ wA := tA 497 (by decide +kernel) rfl
set_option maxRecDepth 100000 in
theorem ki_J6_bitCount_0f7a4 : Cond.static yJ6_bitCount_0f7a4 ∈ wA ∧ Cond.initialized RJ6 ∈ wA := ⟨tA 496 (by decide +kernel) rfl, tA 10 (by decide +kernel) rfl⟩
set_option maxRecDepth 100000 in
theorem kc_L_cell : Cond.code yL_cell cL_cell 2 (some .int) ∈ wA := tA 689 (by decide +kernel) rfl
set_option maxRecDepth 100000 in
theorem ki_L_cell : Cond.static yL_cell ∈ wA ∧ Cond.initialized RL ∈ wA := ⟨tA 688 (by decide +kernel) rfl, tA 0 (by decide +kernel) rfl⟩
set_option maxRecDepth 100000 in
theorem kc_L_low : Cond.code yL_low cL_low 2 (some .int) ∈ wA := tA 693 (by decide +kernel) rfl
set_option maxRecDepth 100000 in
theorem ki_L_low : Cond.static yL_low ∈ wA ∧ Cond.initialized RL ∈ wA := ⟨tA 692 (by decide +kernel) rfl, tA 0 (by decide +kernel) rfl⟩
set_option maxRecDepth 100000 in
theorem kc_L_letter : Cond.code yL_letter cL_letter 1 (some .int) ∈ wA := tA 708 (by decide +kernel) rfl
set_option maxRecDepth 100000 in
theorem ki_L_letter : Cond.static yL_letter ∈ wA ∧ Cond.initialized RL ∈ wA := ⟨tA 707 (by decide +kernel) rfl, tA 0 (by decide +kernel) rfl⟩
set_option maxRecDepth 100000 in
theorem kc_L_court : Cond.code yL_court cL_court 9 (some .boolean) ∈ wA := tA 697 (by decide +kernel) rfl
set_option maxRecDepth 100000 in
theorem ki_L_court : Cond.static yL_court ∈ wA ∧ Cond.initialized RL ∈ wA := ⟨tA 696 (by decide +kernel) rfl, tA 0 (by decide +kernel) rfl⟩
set_option maxRecDepth 100000 in
theorem kc_L_bits : Cond.code yL_bits cL_bits 3 (some .int) ∈ wA := tA 715 (by decide +kernel) rfl
set_option maxRecDepth 100000 in
theorem ki_L_bits : Cond.static yL_bits ∈ wA ∧ Cond.initialized RL ∈ wA := ⟨tA 714 (by decide +kernel) rfl, tA 0 (by decide +kernel) rfl⟩
set_option maxRecDepth 100000 in
theorem kc_L_hard : Cond.code yL_hard cL_hard 2 (some .int) ∈ wA := tA 739 (by decide +kernel) rfl
set_option maxRecDepth 100000 in
theorem ki_L_hard : Cond.static yL_hard ∈ wA ∧ Cond.initialized RL ∈ wA := ⟨tA 738 (by decide +kernel) rfl, tA 0 (by decide +kernel) rfl⟩
set_option maxRecDepth 100000 in
theorem kc_L_feels : Cond.code yL_feels cL_feels 4 (some .int) ∈ wA := tA 736 (by decide +kernel) rfl
set_option maxRecDepth 100000 in
theorem ki_L_feels : Cond.static yL_feels ∈ wA ∧ Cond.initialized RL ∈ wA := ⟨tA 735 (by decide +kernel) rfl, tA 0 (by decide +kernel) rfl⟩
set_option maxRecDepth 100000 in
theorem kc_L_burns : Cond.code yL_burns cL_burns 7 (some .int) ∈ wA := tA 733 (by decide +kernel) rfl
set_option maxRecDepth 100000 in
theorem ki_L_burns : Cond.static yL_burns ∈ wA ∧ Cond.initialized RL ∈ wA := ⟨tA 732 (by decide +kernel) rfl, tA 0 (by decide +kernel) rfl⟩
set_option maxRecDepth 100000 in
theorem kc_L_comes : Cond.code yL_comes cL_comes 5 (some .boolean) ∈ wA := tA 730 (by decide +kernel) rfl
set_option maxRecDepth 100000 in
theorem ki_L_comes : Cond.static yL_comes ∈ wA ∧ Cond.initialized RL ∈ wA := ⟨tA 729 (by decide +kernel) rfl, tA 0 (by decide +kernel) rfl⟩
set_option maxRecDepth 100000 in
theorem kc_L_tells : Cond.code yL_tells cL_tells 6 (some .int) ∈ wA := tA 727 (by decide +kernel) rfl
set_option maxRecDepth 100000 in
theorem ki_L_tells : Cond.static yL_tells ∈ wA ∧ Cond.initialized RL ∈ wA := ⟨tA 726 (by decide +kernel) rfl, tA 0 (by decide +kernel) rfl⟩
set_option maxRecDepth 100000 in
theorem kc_L_told : Cond.code yL_told cL_told 4 (some .int) ∈ wA := tA 724 (by decide +kernel) rfl
set_option maxRecDepth 100000 in
theorem ki_L_told : Cond.static yL_told ∈ wA ∧ Cond.initialized RL ∈ wA := ⟨tA 723 (by decide +kernel) rfl, tA 0 (by decide +kernel) rfl⟩
set_option maxRecDepth 100000 in
theorem kc_L_wrong : Cond.code yL_wrong cL_wrong 3 (some .int) ∈ wA := tA 742 (by decide +kernel) rfl
set_option maxRecDepth 100000 in
theorem ki_L_wrong : Cond.static yL_wrong ∈ wA ∧ Cond.initialized RL ∈ wA := ⟨tA 741 (by decide +kernel) rfl, tA 0 (by decide +kernel) rfl⟩
set_option maxRecDepth 100000 in
theorem kc_L_cut : Cond.code yL_cut cL_cut 1 (some .int) ∈ wA := tA 745 (by decide +kernel) rfl
set_option maxRecDepth 100000 in
theorem ki_L_cut : Cond.static yL_cut ∈ wA ∧ Cond.initialized RL ∈ wA := ⟨tA 744 (by decide +kernel) rfl, tA 0 (by decide +kernel) rfl⟩
set_option maxRecDepth 100000 in
theorem kc_L_trial : Cond.code yL_trial cL_trial 4 (some .int) ∈ wA := tA 721 (by decide +kernel) rfl
set_option maxRecDepth 100000 in
theorem ki_L_trial : Cond.static yL_trial ∈ wA ∧ Cond.initialized RL ∈ wA := ⟨tA 720 (by decide +kernel) rfl, tA 0 (by decide +kernel) rfl⟩
set_option maxRecDepth 100000 in
theorem kc_L_stir : Cond.code yL_stir cL_stir 11 (some .boolean) ∈ wA := tA 718 (by decide +kernel) rfl
set_option maxRecDepth 100000 in
theorem ki_L_stir : Cond.static yL_stir ∈ wA ∧ Cond.initialized RL ∈ wA := ⟨tA 717 (by decide +kernel) rfl, tA 0 (by decide +kernel) rfl⟩
set_option maxRecDepth 100000 in
theorem kc_L_tell : Cond.code yL_tell cL_tell 3 (some .int) ∈ wA := tA 748 (by decide +kernel) rfl
set_option maxRecDepth 100000 in
theorem ki_L_tell : Cond.static yL_tell ∈ wA ∧ Cond.initialized RL ∈ wA := ⟨tA 747 (by decide +kernel) rfl, tA 0 (by decide +kernel) rfl⟩
