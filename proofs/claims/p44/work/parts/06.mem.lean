/-! the memory of both systems: x k i j (the class: field or row k of the i-th of its kind, place j), y k j (the reference) -/
abbrev gA : Type := Int → Int → Nat
abbrev gX : Type := Int → Int → Int → Int
abbrev gY : Type := Int → Int → Int
abbrev gD : Type := va_G × ClassId × ClassId × ClassId × ClassId
def xU (x : gX) (k i j v : Int) : gX := fun k1 i1 j1 => if k1 = k ∧ i1 = i ∧ j1 = j then v else x k1 i1 j1
def yU (y : gY) (k j v : Int) : gY := fun k1 j1 => if k1 = k ∧ j1 = j then v else y k1 j1
theorem xU_same (x : gX) (k i j v : Int) : xU x k i j v k i j = v := by simp [xU]
theorem xU_k {x : gX} {k i j v k1 : Int} (h : k1 ≠ k) : xU x k i j v k1 = x k1 := by funext i1 j1; simp [xU, h]
theorem xU_at (x : gX) (k i j v i1 j1 : Int) : xU x k i j v k i1 j1 = if i1 = i ∧ j1 = j then v else x k i1 j1 := by simp [xU]
theorem xU_i {x : gX} {k i j v i1 : Int} (h : i1 ≠ i) : xU x k i j v k i1 = x k i1 := by funext j1; simp [xU, h]
theorem xU_j {x : gX} {k i j v j1 : Int} (h : j1 ≠ j) : xU x k i j v k i j1 = x k i j1 := by simp [xU, h]
theorem yU_same (y : gY) (k j v : Int) : yU y k j v k j = v := by simp [yU]
theorem yU_k {y : gY} {k j v k1 : Int} (h : k1 ≠ k) : yU y k j v k1 = y k1 := by funext j1; simp [yU, h]
theorem yU_at (y : gY) (k j v j1 : Int) : yU y k j v k j1 = if j1 = j then v else y k j1 := by simp [yU]
theorem yU_j {y : gY} {k j v j1 : Int} (h : j1 ≠ j) : yU y k j v k j1 = y k j1 := by simp [yU, h]
def gRow (cI : ClassId) (n : Nat) (f : Int → Int) : va_E := .inl (cI, n, .inl (fun j => J (f (j : Int))))
def gRef (cA : ClassId) (n : Nat) (f : Int → Nat) : va_E := .inl (cA, n, .inr (.inr (.inr (.inr (fun j => some (f (j : Int)))))))
def gE0 (cI cR cM cD : ClassId) (ad : gA) (x : gX) (y : gY) (i : Int) : va_E := .inr (0, [.ref (ad 32 0), .ref (ad 3 6), .ref (ad 1 0), .int (J (x 10 i 0)), .int (J (x 11 i 0)), .int (J (x 12 i 0)), .int (J (x 13 i 0)), .int (J (x 14 i 0)), .int (J (x 15 i 0))])
def gE1 (cI cR cM cD : ClassId) (ad : gA) (x : gX) (y : gY) (i : Int) : va_E := .inr (1, [.ref (ad 21 i), .ref (ad 22 i), .int (J (x 16 i 0))])
def gE2 (cI cR cM cD : ClassId) (ad : gA) (x : gX) (y : gY) (i : Int) : va_E := .inr (2, [.ref (ad 25 (x 38 i 0)), .ref (ad 25 (x 39 i 0))])
def gE3 (cI cR cM cD : ClassId) (ad : gA) (x : gX) (y : gY) (i : Int) : va_E := .inr (3, [.int (J (x 1 i 0)), .int (J (x 2 i 0)), .int (J (x 3 i 0)), .int (J (x 4 i 0)), .int (J (x 5 i 0)), .int (J (x 6 i 0)), .int (J (x 7 i 0))])
def gE4 (cI cR cM cD : ClassId) (ad : gA) (x : gX) (y : gY) (i : Int) : va_E := .inr (4, [.ref (ad 24 0), .int (J (x 34 i 0))])
def gE5 (cI cR cM cD : ClassId) (ad : gA) (x : gX) (y : gY) (i : Int) : va_E := .inr (5, [.ref (ad 23 0), .int (J (x 35 i 0)), .int (J (x 36 i 0)), .int (J (x 37 i 0))])
def gE6 (cI cR cM cD : ClassId) (ad : gA) (x : gX) (y : gY) (i : Int) : va_E := .inr (6, [.ref (ad 20 i), .int (J (x 17 i 0))])
def gE7 (cI cR cM cD : ClassId) (ad : gA) (x : gX) (y : gY) (i : Int) : va_E := .inr (7, [.ref (ad 30 0), .ref (ad 31 0), .ref (ad 5 0), .ref (ad 0 0), .ref (ad 33 0), .ref (ad 4 0), .ref (ad 2 0), .ref (ad 26 0), .int (J (x 18 i 0)), .int (J (x 19 i 0)), .long (Lg (x 8 i 0)), .long (Lg (x 9 i 0))])
def gE20 (cI cR cM cD : ClassId) (ad : gA) (x : gX) (y : gY) (i : Int) : va_E := gRow cI (if i < 6 then 40 else 60) (x 20 i)
def gE21 (cI cR cM cD : ClassId) (ad : gA) (x : gX) (y : gY) (i : Int) : va_E := gRow cI (40) (x 21 i)
def gE22 (cI cR cM cD : ClassId) (ad : gA) (x : gX) (y : gY) (i : Int) : va_E := gRow cI (40) (x 22 i)
def gE23 (cI cR cM cD : ClassId) (ad : gA) (x : gX) (y : gY) (i : Int) : va_E := gRow cI (28) (x 23 i)
def gE24 (cI cR cM cD : ClassId) (ad : gA) (x : gX) (y : gY) (i : Int) : va_E := gRow cI (6) (x 24 i)
def gE25 (cI cR cM cD : ClassId) (ad : gA) (x : gX) (y : gY) (i : Int) : va_E := gRow cI (31) (x 25 i)
def gE26 (cI cR cM cD : ClassId) (ad : gA) (x : gX) (y : gY) (i : Int) : va_E := gRow cI (6) (x 26 i)
def gE30 (cI cR cM cD : ClassId) (ad : gA) (x : gX) (y : gY) (i : Int) : va_E := gRef cR 6 (fun j => ad 6 j)
def gE31 (cI cR cM cD : ClassId) (ad : gA) (x : gX) (y : gY) (i : Int) : va_E := gRef cR 4 (fun j => ad 6 (6 + j))
def gE32 (cI cR cM cD : ClassId) (ad : gA) (x : gX) (y : gY) (i : Int) : va_E := gRef cM 6 (fun j => ad 3 j)
def gE33 (cI cR cM cD : ClassId) (ad : gA) (x : gX) (y : gY) (i : Int) : va_E := gRef cD 3 (fun j => ad 1 (1 + j))
def gE41 (cI cR cM cD : ClassId) (ad : gA) (x : gX) (y : gY) (i : Int) : va_E := if i = 0 then gRow cI 29 (y 41) else .inr (0, [])
def gE42 (cI cR cM cD : ClassId) (ad : gA) (x : gX) (y : gY) (i : Int) : va_E := if i = 0 then gRow cI 16 (y 42) else .inr (0, [])
def gE43 (cI cR cM cD : ClassId) (ad : gA) (x : gX) (y : gY) (i : Int) : va_E := if i = 0 then gRow cI 6 (y 43) else .inr (0, [])
def gE (cI cR cM cD : ClassId) (ad : gA) (x : gX) (y : gY) (k i : Int) : va_E :=
  if k = 0 then gE0 cI cR cM cD ad x y i else
  if k = 1 then gE1 cI cR cM cD ad x y i else
  if k = 2 then gE2 cI cR cM cD ad x y i else
  if k = 3 then gE3 cI cR cM cD ad x y i else
  if k = 4 then gE4 cI cR cM cD ad x y i else
  if k = 5 then gE5 cI cR cM cD ad x y i else
  if k = 6 then gE6 cI cR cM cD ad x y i else
  if k = 7 then gE7 cI cR cM cD ad x y i else
  if k = 20 then gE20 cI cR cM cD ad x y i else
  if k = 21 then gE21 cI cR cM cD ad x y i else
  if k = 22 then gE22 cI cR cM cD ad x y i else
  if k = 23 then gE23 cI cR cM cD ad x y i else
  if k = 24 then gE24 cI cR cM cD ad x y i else
  if k = 25 then gE25 cI cR cM cD ad x y i else
  if k = 26 then gE26 cI cR cM cD ad x y i else
  if k = 30 then gE30 cI cR cM cD ad x y i else
  if k = 31 then gE31 cI cR cM cD ad x y i else
  if k = 32 then gE32 cI cR cM cD ad x y i else
  if k = 33 then gE33 cI cR cM cD ad x y i else
  if k = 41 then gE41 cI cR cM cD ad x y i else
  if k = 42 then gE42 cI cR cM cD ad x y i else
  if k = 43 then gE43 cI cR cM cD ad x y i else
  .inr (0, [])
def gIds : List (Int × Int) := [(0, 0), (1, 0), (1, 1), (1, 2), (1, 3), (2, 0), (3, 0), (3, 1), (3, 2), (3, 3), (3, 4), (3, 5), (3, 6), (4, 0), (5, 0), (6, 0), (6, 1), (6, 2), (6, 3), (6, 4), (6, 5), (6, 6), (6, 7), (6, 8), (6, 9), (7, 0), (20, 0), (20, 1), (20, 2), (20, 3), (20, 4), (20, 5), (20, 6), (20, 7), (20, 8), (20, 9), (21, 0), (21, 1), (21, 2), (21, 3), (22, 0), (22, 1), (22, 2), (22, 3), (23, 0), (24, 0), (25, 0), (25, 1), (26, 0), (30, 0), (31, 0), (32, 0), (33, 0), (41, 0), (42, 0), (43, 0)]
theorem gIds_nd : gIds.Nodup := by decide +kernel
theorem gIds_in : ∀ q ∈ gIds, q.1 ∈ ([0, 1, 2, 3, 4, 5, 6, 7, 20, 21, 22, 23, 24, 25, 26, 30, 31, 32, 33, 41, 42, 43] : List Int) := by decide +kernel
def gTys (cI cR cM cD : ClassId) : List (ClassId × FieldType) := [(cI, .int), (cR, .object RX6), (cM, .object RX3), (cD, .object RX1)]
def gV (cI cR cM cD : ClassId) (ad : gA) (x : gX) (y : gY) : va_W := gIds.map (fun q => (ad q.1 q.2, gE cI cR cM cD ad x y q.1 q.2))
theorem gV_at {cI cR cM cD : ClassId} {ad : gA} {x : gX} {y : gY} {n : Nat} {k i : Int} (h : gIds[n]? = some (k, i)) : (gV cI cR cM cD ad x y)[n]? = some (ad k i, gE cI cR cM cD ad x y k i) := by
  unfold gV; rw [List.getElem?_map, h]; rfl
theorem gV_set {cI cR cM cD : ClassId} {ad : gA} {x x' : gX} {y y' : gY} {n : Nat} {k i : Int} {e : va_E} (h : gIds[n]? = some (k, i)) (he : ∀ k1 i1, gE cI cR cM cD ad x' y' k1 i1 = if k1 = k ∧ i1 = i then e else gE cI cR cM cD ad x y k1 i1) : (gV cI cR cM cD ad x y).set n (ad k i, e) = gV cI cR cM cD ad x' y' := by
  apply List.ext_getElem?
  intro q
  rw [List.getElem?_set]
  unfold gV
  rw [List.length_map]
  split
  · rename_i hq
    subst hq
    have hl := (List.getElem?_eq_some_iff.mp h).1
    rw [if_pos hl, List.getElem?_map, h]
    show some (ad k i, e) = some (ad k i, _)
    rw [he k i, if_pos ⟨rfl, rfl⟩]
  · rename_i hq
    rw [List.getElem?_map, List.getElem?_map]
    cases hw : gIds[q]? with
    | none => rfl
    | some w =>
      show some (ad w.1 w.2, _) = some (ad w.1 w.2, _)
      rw [he w.1 w.2, if_neg]
      rintro ⟨h1, h2⟩
      apply hq
      have hw' : gIds[q]? = some (k, i) := by rw [hw, ← h1, ← h2]
      obtain ⟨l1, e1⟩ := List.getElem?_eq_some_iff.mp h
      obtain ⟨l2, e2⟩ := List.getElem?_eq_some_iff.mp hw'
      exact (List.getElem_inj gIds_nd).mp (e1.trans e2.symm)
theorem gI_0 : gIds[0]? = some (0, 0) := by decide +kernel
theorem gI_1 {i : Int} (h : 0 ≤ i ∧ i < 4) : gIds[(1 + i).toNat]? = some (1, i) := by
  rcases (show i = 0 ∨ i = 1 ∨ i = 2 ∨ i = 3 by omega) with rfl | rfl | rfl | rfl <;> decide +kernel
theorem gI_2 : gIds[5]? = some (2, 0) := by decide +kernel
theorem gI_3 {i : Int} (h : 0 ≤ i ∧ i < 7) : gIds[(6 + i).toNat]? = some (3, i) := by
  rcases (show i = 0 ∨ i = 1 ∨ i = 2 ∨ i = 3 ∨ i = 4 ∨ i = 5 ∨ i = 6 by omega) with rfl | rfl | rfl | rfl | rfl | rfl | rfl <;> decide +kernel
theorem gI_4 : gIds[13]? = some (4, 0) := by decide +kernel
theorem gI_5 : gIds[14]? = some (5, 0) := by decide +kernel
theorem gI_6 {i : Int} (h : 0 ≤ i ∧ i < 10) : gIds[(15 + i).toNat]? = some (6, i) := by
  rcases (show i = 0 ∨ i = 1 ∨ i = 2 ∨ i = 3 ∨ i = 4 ∨ i = 5 ∨ i = 6 ∨ i = 7 ∨ i = 8 ∨ i = 9 by omega) with rfl | rfl | rfl | rfl | rfl | rfl | rfl | rfl | rfl | rfl <;> decide +kernel
theorem gI_7 : gIds[25]? = some (7, 0) := by decide +kernel
theorem gI_20 {i : Int} (h : 0 ≤ i ∧ i < 10) : gIds[(26 + i).toNat]? = some (20, i) := by
  rcases (show i = 0 ∨ i = 1 ∨ i = 2 ∨ i = 3 ∨ i = 4 ∨ i = 5 ∨ i = 6 ∨ i = 7 ∨ i = 8 ∨ i = 9 by omega) with rfl | rfl | rfl | rfl | rfl | rfl | rfl | rfl | rfl | rfl <;> decide +kernel
theorem gI_21 {i : Int} (h : 0 ≤ i ∧ i < 4) : gIds[(36 + i).toNat]? = some (21, i) := by
  rcases (show i = 0 ∨ i = 1 ∨ i = 2 ∨ i = 3 by omega) with rfl | rfl | rfl | rfl <;> decide +kernel
theorem gI_22 {i : Int} (h : 0 ≤ i ∧ i < 4) : gIds[(40 + i).toNat]? = some (22, i) := by
  rcases (show i = 0 ∨ i = 1 ∨ i = 2 ∨ i = 3 by omega) with rfl | rfl | rfl | rfl <;> decide +kernel
theorem gI_23 : gIds[44]? = some (23, 0) := by decide +kernel
theorem gI_24 : gIds[45]? = some (24, 0) := by decide +kernel
theorem gI_25 {i : Int} (h : 0 ≤ i ∧ i < 2) : gIds[(46 + i).toNat]? = some (25, i) := by
  rcases (show i = 0 ∨ i = 1 by omega) with rfl | rfl <;> decide +kernel
theorem gI_26 : gIds[48]? = some (26, 0) := by decide +kernel
theorem gI_30 : gIds[49]? = some (30, 0) := by decide +kernel
theorem gI_31 : gIds[50]? = some (31, 0) := by decide +kernel
theorem gI_32 : gIds[51]? = some (32, 0) := by decide +kernel
theorem gI_33 : gIds[52]? = some (33, 0) := by decide +kernel
theorem gI_41 : gIds[53]? = some (41, 0) := by decide +kernel
theorem gI_42 : gIds[54]? = some (42, 0) := by decide +kernel
theorem gI_43 : gIds[55]? = some (43, 0) := by decide +kernel
def gAp (ad : gA) (A : Nat → Prop) : Prop := (∀ q ∈ gIds, ∀ r ∈ gIds, ad q.1 q.2 = ad r.1 r.2 → q = r) ∧ ∀ q ∈ gIds, A (ad q.1 q.2)
theorem gAp_D {cI cR cM cD : ClassId} {ad : gA} {A : Nat → Prop} {x : gX} {y : gY} (h : gAp ad A) : va_D A (gV cI cR cM cD ad x y) := by
  have key : ∀ (k : Nat) (q : Nat × va_E), (gV cI cR cM cD ad x y)[k]? = some q → ∃ w, gIds[k]? = some w ∧ q.1 = ad w.1 w.2 := by
    intro k q hk
    unfold gV at hk
    rw [List.getElem?_map] at hk
    cases hw : gIds[k]? with
    | none => rw [hw] at hk; cases hk
    | some w => rw [hw] at hk; cases hk; exact ⟨w, rfl, rfl⟩
  refine ⟨fun i j p q hi hj hpq => ?_, fun k q hk => ?_⟩
  · obtain ⟨w, hw, e1⟩ := key i p hi
    obtain ⟨r, hr, e2⟩ := key j q hj
    have := h.1 w (List.mem_of_getElem? hw) r (List.mem_of_getElem? hr) (by rw [← e1, ← e2]; exact hpq)
    subst this
    obtain ⟨l1, f1⟩ := List.getElem?_eq_some_iff.mp hw
    obtain ⟨l2, f2⟩ := List.getElem?_eq_some_iff.mp hr
    exact (List.getElem_inj gIds_nd).mp (f1.trans f2.symm)
  · obtain ⟨w, hw, e1⟩ := key k q hk
    rw [e1]; exact h.2 w (List.mem_of_getElem? hw)
