/-! deeds, as they change the memory -/
def actM (x : gX) (w h : Int) : gX :=
  if w = 0 then xU x 15 0 0 (kH (x 15 0 0 + h))
  else if w = 1 then xU x 5 h 0 (x 5 h 0 + 1)
  else if w = 2 then xU (xU (xU x 6 h 0 (vU x h (x 15 0 0))) 7 h 0 (if sWr (x 2 h 0) (vU x h (x 15 0 0)) then 1 else 0)) 15 0 0 (sBeh (x 14 0 0) (vU x h (x 15 0 0)) (tcU (xU x 6 h 0 (vU x h (x 15 0 0)))) (x 15 0 0))
  else x
theorem MOK_5 {x : gX} {i j v : Int} (h : MOK x i) (hv : 0 ≤ v ∧ v ≤ 100) : MOK (xU x 5 j 0 v) i := by
  obtain ⟨h1, h2, h3, h4, h5, h6, h7⟩ := h
  refine ⟨h1, h2, h3, h4, ?_, h6, h7⟩
  show 0 ≤ xU x 5 j 0 v 5 i 0 ∧ xU x 5 j 0 v 5 i 0 ≤ 100
  rw [xU_at]; split <;> omega
theorem MOK_6 {x : gX} {i j v : Int} (h : MOK x i) (hv : -9 ≤ v ∧ v ≤ 2) : MOK (xU x 6 j 0 v) i := by
  obtain ⟨h1, h2, h3, h4, h5, h6, h7⟩ := h
  refine ⟨h1, h2, h3, h4, h5, ?_, h7⟩
  show -9 ≤ xU x 6 j 0 v 6 i 0 ∧ xU x 6 j 0 v 6 i 0 ≤ 2
  rw [xU_at]; split <;> omega
theorem MOK_7 {x : gX} {i j v : Int} (h : MOK x i) (hv : 0 ≤ v ∧ v ≤ 1) : MOK (xU x 7 j 0 v) i := by
  obtain ⟨h1, h2, h3, h4, h5, h6, h7⟩ := h
  refine ⟨h1, h2, h3, h4, h5, h6, ?_⟩
  show 0 ≤ xU x 7 j 0 v 7 i 0 ∧ xU x 7 j 0 v 7 i 0 ≤ 1
  rw [xU_at]; split <;> omega
theorem NOK_5 {x : gX} {j v : Int} (h : NOK x) (hv : 0 ≤ v ∧ v ≤ 100) : NOK (xU x 5 j 0 v) := ⟨h.1, h.2.1, h.2.2.1, fun i h0 h1 => MOK_5 (h.2.2.2 i h0 h1) hv⟩
theorem NOK_6 {x : gX} {j v : Int} (h : NOK x) (hv : -9 ≤ v ∧ v ≤ 2) : NOK (xU x 6 j 0 v) := ⟨h.1, h.2.1, h.2.2.1, fun i h0 h1 => MOK_6 (h.2.2.2 i h0 h1) hv⟩
theorem NOK_7 {x : gX} {j v : Int} (h : NOK x) (hv : 0 ≤ v ∧ v ≤ 1) : NOK (xU x 7 j 0 v) := ⟨h.1, h.2.1, h.2.2.1, fun i h0 h1 => MOK_7 (h.2.2.2 i h0 h1) hv⟩
theorem NOK_15 {x : gX} {v : Int} (h : NOK x) (hv : 0 ≤ v ∧ v ≤ 30) : NOK (xU x 15 0 0 v) := ⟨h.1, h.2.1, by show 0 ≤ xU x 15 0 0 v 15 0 0 ∧ xU x 15 0 0 v 15 0 0 ≤ 30; rw [xU_same]; exact hv, fun i h0 h1 => h.2.2.2 i h0 h1⟩
theorem tcU_r {x : gX} (h : 0 ≤ x 10 0 0) : 0 ≤ tcU x ∧ tcU x ≤ x 10 0 0 := cntZ_r h
theorem sBeh_r {k v c a : Int} (h : 0 ≤ a ∧ a ≤ 30) : 0 ≤ sBeh k v c a ∧ sBeh k v c a ≤ 30 := by
  unfold sBeh; split
  · exact kH_r _
  · exact h
/-- what is done, as the deeds have it -/
abbrev wOK (x : gX) (w h : Int) : Prop := (0 ≤ w ∧ w ≤ 3) ∧ (w = 0 → -5 ≤ h ∧ h ≤ 5) ∧ (w = 1 ∨ w = 2 → 0 ≤ h ∧ h < x 10 0 0)
theorem actM_NOK {x : gX} {w h m : Int} (hN : NOK x) (hm : m ≤ 60) (hs : ∀ i : Int, 0 ≤ i → i < x 10 0 0 → x 5 i 0 ≤ m) (hw : wOK x w h) : NOK (actM x w h) := by
  unfold actM
  split
  · exact NOK_15 hN (kH_r _)
  · split
    · rename_i h1
      have := hs h (by omega) (by omega)
      have := hN.2.2.2 h (by omega) (by omega)
      exact NOK_5 hN (by omega)
    · split
      · rename_i h2
        have hv := vU_r x h (x 15 0 0)
        exact NOK_15 (NOK_7 (NOK_6 hN (by omega)) (by split <;> omega)) (sBeh_r hN.2.2.1)
      · exact hN
theorem actM_k {x : gX} {w h k : Int} (h5 : k ≠ 5) (h6 : k ≠ 6) (h7 : k ≠ 7) (h15 : k ≠ 15) : actM x w h k = x k := by
  unfold actM
  split
  · exact xU_k h15
  · split
    · exact xU_k h5
    · split
      · rw [xU_k h15, xU_k h7, xU_k h6]
      · rfl
theorem actM_5 {x : gX} {w h m i : Int} (hs : x 5 i 0 ≤ m) : actM x w h 5 i 0 ≤ m + 1 := by
  unfold actM
  split
  · rw [xU_k (by decide)]; omega
  · split
    · rw [xU_at]; split
      · rename_i q; rw [← q.1]; omega
      · omega
    · split
      · rw [xU_k (by decide), xU_k (by decide), xU_k (by decide)]; omega
      · omega
/-- all deeds anew: nobody has salve, nobody is tried, heat 8 -/
def rsM (x : gX) (m : Int) : gX := fun k i j => if (k = 5 ∨ k = 6 ∨ k = 7) ∧ 0 ≤ i ∧ i < m ∧ j = 0 then (if k = 6 then -9 else 0) else x k i j
theorem rsM_0 (x : gX) : rsM x 0 = x := by funext k i j; unfold rsM; rw [if_neg (by omega)]
theorem rsM_s (x : gX) {m : Int} (hm : 0 ≤ m) : xU (xU (xU (rsM x m) 5 m 0 0) 6 m 0 (-9)) 7 m 0 0 = rsM x (m + 1) := by
  funext k i j
  unfold xU rsM
  by_cases h7 : k = 7 ∧ i = m ∧ j = 0
  · obtain ⟨rfl, rfl, rfl⟩ := h7; simp; omega
  · rw [if_neg h7]
    by_cases h6 : k = 6 ∧ i = m ∧ j = 0
    · obtain ⟨rfl, rfl, rfl⟩ := h6; simp; omega
    · rw [if_neg h6]
      by_cases h5 : k = 5 ∧ i = m ∧ j = 0
      · obtain ⟨rfl, rfl, rfl⟩ := h5; simp; omega
      · rw [if_neg h5]
        by_cases h : (k = 5 ∨ k = 6 ∨ k = 7) ∧ 0 ≤ i ∧ i < m ∧ j = 0
        · rw [if_pos h, if_pos (c := (k = 5 ∨ k = 6 ∨ k = 7) ∧ 0 ≤ i ∧ i < m + 1 ∧ j = 0) ⟨h.1, h.2.1, by omega, h.2.2.2⟩]
        · rw [if_neg h, if_neg (by omega)]
theorem rsM_k {x : gX} {m k : Int} (h5 : k ≠ 5) (h6 : k ≠ 6) (h7 : k ≠ 7) : rsM x m k = x k := by
  funext i j; unfold rsM; rw [if_neg (by omega)]
theorem rsM_NOK {x : gX} {m : Int} (h : NOK x) : NOK (rsM x m) := by
  refine ⟨h.1, h.2.1, h.2.2.1, fun i h0 h1 => ?_⟩
  obtain ⟨h1, h2, h3, h4, h5, h6, h7⟩ := h.2.2.2 i h0 h1
  refine ⟨h1, h2, h3, h4, ?_, ?_, ?_⟩
  · show 0 ≤ rsM x m 5 i 0 ∧ rsM x m 5 i 0 ≤ 100
    unfold rsM; split <;> first | omega | (simp; done) | (simp; omega)
  · show -9 ≤ rsM x m 6 i 0 ∧ rsM x m 6 i 0 ≤ 2
    unfold rsM; split <;> first | omega | (simp; done) | (simp; omega)
  · show 0 ≤ rsM x m 7 i 0 ∧ rsM x m 7 i 0 ≤ 1
    unfold rsM; split <;> first | omega | (simp; done) | (simp; omega)
/-- the memory when the first j deeds of the d-th row of deeds are done anew -/
def repN (x : gX) (d : Int) : Nat → gX
  | 0 => rsM (xU x 15 0 0 8) (x 10 0 0)
  | j + 1 => actM (repN x d j) (x 21 d (j : Int)) (x 22 d (j : Int))
def repM (x : gX) (d j : Int) : gX := repN x d j.toNat
theorem repM_s (x : gX) (d : Int) {j : Int} (h : 0 ≤ j) : repM x d (j + 1) = actM (repM x d j) (x 21 d j) (x 22 d j) := by
  unfold repM
  rw [show (j + 1).toNat = j.toNat + 1 by omega]
  show actM (repN x d j.toNat) (x 21 d (j.toNat : Int)) (x 22 d (j.toNat : Int)) = _
  rw [Int.toNat_of_nonneg h]
theorem repN_k {x : gX} {d k : Int} (h5 : k ≠ 5) (h6 : k ≠ 6) (h7 : k ≠ 7) (h15 : k ≠ 15) : ∀ j : Nat, repN x d j k = x k
  | 0 => by show rsM _ _ k = _; rw [rsM_k h5 h6 h7, xU_k h15]
  | j + 1 => by show actM _ _ _ k = _; rw [actM_k h5 h6 h7 h15, repN_k h5 h6 h7 h15 j]
theorem repM_k {x : gX} {d k j : Int} (h5 : k ≠ 5) (h6 : k ≠ 6) (h7 : k ≠ 7) (h15 : k ≠ 15) : repM x d j k = x k := repN_k h5 h6 h7 h15 _
/-- the deeds of a row of deeds are such -/
abbrev DOK (x : gX) (d n : Int) : Prop := ∀ j : Int, 0 ≤ j → j < n → wOK x (x 21 d j) (x 22 d j)
theorem repN_NOK {x : gX} {d n : Int} (hN : NOK x) (hn : n ≤ 40) (hD : DOK x d n) : ∀ j : Nat, (j : Int) ≤ n → NOK (repN x d j) ∧ ∀ i : Int, 0 ≤ i → i < x 10 0 0 → repN x d j 5 i 0 ≤ (j : Int)
  | 0, _ => ⟨rsM_NOK (NOK_15 hN (by omega)), fun i h0 h1 => by show rsM _ _ 5 i 0 ≤ _; unfold rsM; rw [if_pos ⟨Or.inl rfl, h0, h1, rfl⟩]; simp⟩
  | j + 1, hj => by
    have ih := repN_NOK hN hn hD j (by omega)
    have e10 : repN x d j 10 = x 10 := repN_k (by decide) (by decide) (by decide) (by decide) j
    have hw := hD (j : Int) (by omega) (by omega)
    refine ⟨actM_NOK (m := (j : Int)) ih.1 (by omega) (fun i h0 h1 => ih.2 i h0 (by rw [e10] at h1; exact h1)) (by unfold wOK; rw [e10]; exact hw), fun i h0 h1 => ?_⟩
    have := actM_5 (w := x 21 d (j : Int)) (h := x 22 d (j : Int)) (ih.2 i h0 h1)
    show actM _ _ _ 5 i 0 ≤ ((j + 1 : Nat) : Int)
    omega
theorem repM_NOK {x : gX} {d n j : Int} (hN : NOK x) (hn : n ≤ 40) (hD : DOK x d n) (h0 : 0 ≤ j) (h1 : j ≤ n) : NOK (repM x d j) ∧ ∀ i : Int, 0 ≤ i → i < x 10 0 0 → repM x d j 5 i 0 ≤ j := by
  have := repN_NOK hN hn hD j.toNat (by omega)
  rw [Int.toNat_of_nonneg h0] at this
  exact this
