/-! the court alone: m men -/
abbrev cQ (m k i j : Int) : Prop := ((1 ≤ k ∧ k ≤ 7) ∧ 0 ≤ i ∧ i < m ∧ j = 0) ∨ ((10 ≤ k ∧ k ≤ 15) ∧ i = 0 ∧ j = 0)
def cE (m : Int) (a b : gX) : Prop := ∀ k i j : Int, cQ m k i j → b k i j = a k i j
def cS (m : Int) (a b : gX) : Prop := ∀ k i j : Int, cQ m k i j → k ≤ 4 ∨ (10 ≤ k ∧ k ≤ 14) → b k i j = a k i j
theorem cE_S {m : Int} {a b : gX} (e : cE m a b) : cS m a b := fun k i j q _ => e k i j q
theorem cE_sy {m : Int} {a b : gX} (e : cE m a b) : cE m b a := fun k i j q => (e k i j q).symm
theorem cE_tr {m : Int} {a b c : gX} (e : cE m a b) (f : cE m b c) : cE m a c := fun k i j q => (f k i j q).trans (e k i j q)
theorem cE_rf (m : Int) (a : gX) : cE m a a := fun _ _ _ _ => rfl
theorem vU_cE {m : Int} {a b : gX} (e : cE m a b) {i : Int} (h0 : 0 ≤ i) (h1 : i < m) (h : Int) : vU b i h = vU a i h := by
  show (fun (p mm he k g bb hd s : Int) => if sComes k g bb h then (if 0 < sBurn p mm k bb hd h - he - 2 * s then (0 : Int) else 1) else 2) (b 11 0 0) (b 12 0 0) (b 13 0 0) (b 1 i 0) (b 2 i 0) (b 3 i 0) (b 4 i 0) (b 5 i 0) = (fun (p mm he k g bb hd s : Int) => if sComes k g bb h then (if 0 < sBurn p mm k bb hd h - he - 2 * s then (0 : Int) else 1) else 2) (a 11 0 0) (a 12 0 0) (a 13 0 0) (a 1 i 0) (a 2 i 0) (a 3 i 0) (a 4 i 0) (a 5 i 0)
  rw [e 1 i 0 (by omega), e 2 i 0 (by omega), e 3 i 0 (by omega), e 4 i 0 (by omega), e 5 i 0 (by omega), e 11 0 0 (by omega), e 12 0 0 (by omega), e 13 0 0 (by omega)]
theorem tcU_cE {a b : gX} (e : cE (a 10 0 0) a b) : tcU b = tcU a := by
  show sumZ (fun i => if b 6 i 0 = 1 then 1 else 0) (b 10 0 0) = _
  rw [e 10 0 0 (by omega)]
  exact sumZ_cong (fun i h0 h => by rw [e 6 i 0 (by omega)])
theorem twU_cE {a b : gX} (e : cE (a 10 0 0) a b) : twU b = twU a := by
  show sumZ (fun i => if b 7 i 0 = 1 then 1 else 0) (b 10 0 0) = _
  rw [e 10 0 0 (by omega)]
  exact sumZ_cong (fun i h0 h => by rw [e 7 i 0 (by omega)])
theorem trU_cE {a b : gX} (e : cE (a 10 0 0) a b) : trU b = trU a := by
  show sumZ (fun i => if b 6 i 0 ≠ -9 then p2 i else 0) (b 10 0 0) = _
  rw [e 10 0 0 (by omega)]
  exact sumZ_cong (fun i h0 h => by rw [e 6 i 0 (by omega)])
theorem sn_cE {a b : gX} (e : cE (a 10 0 0) a b) {k : Int} (h0 : 0 ≤ k) (h1 : k < 16) : sn b k = sn a k := by
  unfold sn
  rw [e 15 0 0 (by omega), trU_cE e, tcU_cE e, twU_cE e, e 10 0 0 (by omega)]
  refine ite_congr rfl (fun _ => rfl) (fun c1 => ite_congr rfl (fun _ => rfl) (fun c2 => ite_congr rfl (fun _ => rfl) (fun c3 => ite_congr rfl (fun _ => rfl) (fun c4 => ite_congr rfl (fun c5 => ite_congr rfl (fun q => e 5 _ 0 (by omega)) (fun _ => rfl)) (fun c5 => ite_congr rfl (fun q => e 6 _ 0 (by omega)) (fun _ => rfl))))))
theorem cE_xU {m : Int} {a b : gX} (e : cE m a b) {k i j v w : Int} (h : cQ m k i j → w = v) : cE m (xU a k i j v) (xU b k i j w) := fun k1 i1 j1 q => by
  unfold xU
  by_cases c : k1 = k ∧ i1 = i ∧ j1 = j
  · rw [if_pos c, if_pos c, h (by rw [← c.1, ← c.2.1, ← c.2.2]; exact q)]
  · rw [if_neg c, if_neg c]; exact e k1 i1 j1 q
theorem actM_cE {m : Int} {a b : gX} (e : cE m a b) (hm : a 10 0 0 = m) {w h : Int} (hw : wOK a w h) : cE m (actM a w h) (actM b w h) := by
  rcases (show w = 0 ∨ w = 1 ∨ w = 2 ∨ (w ≠ 0 ∧ w ≠ 1 ∧ w ≠ 2) by omega) with q | q | q | q
  · rw [actM_w0 q, actM_w0 q]
    exact cE_xU e (fun _ => by rw [e 15 0 0 (by omega)])
  · rw [actM_w1 q, actM_w1 q]
    exact cE_xU e (fun c => by rw [e 5 h 0 c])
  · have hh := hw.2.2 (by omega)
    have ev : vU b h (b 15 0 0) = vU a h (a 15 0 0) := by rw [e 15 0 0 (by omega)]; exact vU_cE e hh.1 (by omega) _
    have e1 : cE m (xU a 6 h 0 (vU a h (a 15 0 0))) (xU b 6 h 0 (vU b h (b 15 0 0))) := cE_xU e (fun _ => ev)
    have e3 : tcU (xU b 6 h 0 (vU b h (b 15 0 0))) = tcU (xU a 6 h 0 (vU a h (a 15 0 0))) := tcU_cE (a := xU a 6 h 0 (vU a h (a 15 0 0))) (by show cE (a 10 0 0) _ _; rw [hm]; exact e1)
    rw [actM_w2 q, actM_w2 q]
    refine cE_xU (cE_xU e1 (fun _ => by rw [ev, e 2 h 0 (by omega)])) (fun _ => ?_)
    rw [e3, ev, e 14 0 0 (by omega), e 15 0 0 (by omega)]
  · rw [actM_w3 q, actM_w3 q]; exact e
theorem rsM_cE {m : Int} {a b : gX} (e : cS m a b) : cE m (rsM (xU a 15 0 0 8) m) (rsM (xU b 15 0 0 8) m) := fun k i j q => by
  unfold rsM
  refine ite_congr rfl (fun _ => rfl) (fun c => ?_)
  unfold xU
  refine ite_congr rfl (fun _ => rfl) (fun c2 => ?_)
  exact e k i j q (by omega)
theorem repN_cE {m d d' n : Int} {a b : gX} (e : cS m a b) (ha : a 10 0 0 = m) (hD : DOK a d n) (hd : ∀ j : Int, 0 ≤ j → j < n → b 21 d' j = a 21 d j ∧ b 22 d' j = a 22 d j) : ∀ j : Nat, (j : Int) ≤ n → cE m (repN a d j) (repN b d' j)
  | 0, _ => by
    show cE m (rsM (xU a 15 0 0 8) (a 10 0 0)) (rsM (xU b 15 0 0 8) (b 10 0 0))
    rw [e 10 0 0 (by omega) (by omega), ha]
    exact rsM_cE e
  | j + 1, h => by
    have ih := repN_cE e ha hD hd j (by omega)
    have e10 : repN a d j 10 = a 10 := repN_k (by decide) (by decide) (by decide) (by decide) j
    show cE m (actM (repN a d j) (a 21 d (j : Int)) (a 22 d (j : Int))) (actM (repN b d' j) (b 21 d' (j : Int)) (b 22 d' (j : Int)))
    rw [(hd (j : Int) (by omega) (by omega)).1, (hd (j : Int) (by omega) (by omega)).2]
    refine actM_cE ih (by rw [e10]; exact ha) ?_
    unfold wOK
    rw [e10]
    exact hD (j : Int) (by omega) (by omega)
theorem repM_cE {m d d' n j : Int} {a b : gX} (e : cS m a b) (ha : a 10 0 0 = m) (hD : DOK a d n) (hd : ∀ j : Int, 0 ≤ j → j < n → b 21 d' j = a 21 d j ∧ b 22 d' j = a 22 d j) (h0 : 0 ≤ j) (h1 : j ≤ n) : cE m (repM a d j) (repM b d' j) := repN_cE e ha hD hd j.toNat (by omega)
theorem repM_10 (a : gX) (d j : Int) : repM a d j 10 0 0 = a 10 0 0 := by rw [repM_k (by decide) (by decide) (by decide) (by decide)]
theorem LOK_cE {m d d' n : Int} {a b : gX} (e : cS m a b) (ha : a 10 0 0 = m) (hL : LOK a d n) (hd : ∀ j : Int, 0 ≤ j → j < n → b 21 d' j = a 21 d j ∧ b 22 d' j = a 22 d j) : LOK b d' n := fun j h0 h1 => by
  obtain ⟨q1, q2, q3⟩ := hL j h0 h1
  have er := repM_cE e ha (LOK_DOK hL) hd h0 (by omega : j ≤ n)
  rw [(hd j h0 h1).1, (hd j h0 h1).2]
  refine ⟨?_, fun w => ?_, fun w => ?_⟩
  · unfold wOK; rw [e 10 0 0 (by omega) (by omega)]; exact q1
  · have hh := q1.2.2 (by omega)
    rw [er 5 (a 22 d j) 0 (by omega)]; exact q2 w
  · have hh := q1.2.2 (by omega)
    rw [er 6 (a 22 d j) 0 (by omega)]; exact q3 w
theorem CUR_cE {a : gX} (h : CUR a) (e : cS (a 10 0 0) a a := fun _ _ _ _ _ => rfl) : cS (a 10 0 0) a (repM a 0 (a 16 0 0)) ∧ cE (a 10 0 0) a (repM a 0 (a 16 0 0)) := by
  have key : cE (a 10 0 0) a (repM a 0 (a 16 0 0)) := fun k i j q => by
    rcases (show k = 15 ∨ k = 5 ∨ k = 6 ∨ k = 7 ∨ (k ≠ 5 ∧ k ≠ 6 ∧ k ≠ 7 ∧ k ≠ 15) by omega) with c | c | c | c | c
    · have hi : i = 0 ∧ j = 0 := by omega
      rw [c, hi.1, hi.2]; exact h.1.symm
    · have hi : (0 ≤ i ∧ i < a 10 0 0) ∧ j = 0 := by omega
      rw [c, hi.2]; exact (h.2 i hi.1.1 hi.1.2).1.symm
    · have hi : (0 ≤ i ∧ i < a 10 0 0) ∧ j = 0 := by omega
      rw [c, hi.2]; exact (h.2 i hi.1.1 hi.1.2).2.1.symm
    · have hi : (0 ≤ i ∧ i < a 10 0 0) ∧ j = 0 := by omega
      rw [c, hi.2]; exact (h.2 i hi.1.1 hi.1.2).2.2.symm
    · rw [repM_k c.1 c.2.1 c.2.2.1 c.2.2.2]
  exact ⟨cE_S key, key⟩
theorem cE_CUR {a : gX} (key : cE (a 10 0 0) a (repM a 0 (a 16 0 0))) : CUR a := ⟨(key 15 0 0 (by omega)).symm, fun i h0 h1 => ⟨(key 5 i 0 (by omega)).symm, (key 6 i 0 (by omega)).symm, (key 7 i 0 (by omega)).symm⟩⟩
/-- who is not tried is not wronged -/
def UW (z : gX) : Prop := ∀ i : Int, 0 ≤ i → i < z 10 0 0 → z 6 i 0 = -9 → z 7 i 0 = 0
theorem UW_act {z : gX} (h : UW z) (w q : Int) : UW (actM z w q) := by
  rcases (show w = 0 ∨ w = 1 ∨ w = 2 ∨ (w ≠ 0 ∧ w ≠ 1 ∧ w ≠ 2) by omega) with e | e | e | e
  · rw [actM_w0 e]; exact h
  · rw [actM_w1 e]; exact h
  · rw [actM_w2 e]
    intro i h0 h1 h2
    have hv := vU_r z q (z 15 0 0)
    rw [xU_k (by decide), xU_k (by decide), xU_at] at h2
    rw [xU_k (by decide), xU_at]
    by_cases c : i = q ∧ (0 : Int) = 0
    · rw [if_pos c] at h2; omega
    · rw [if_neg c] at h2
      rw [if_neg c, xU_k (by decide)]
      exact h i h0 h1 h2
  · rw [actM_w3 e]; exact h
theorem UW_rep (x : gX) (d : Int) : ∀ j : Nat, UW (repN x d j)
  | 0 => fun i h0 h1 _ => by
    show rsM (xU x 15 0 0 8) (x 10 0 0) 7 i 0 = 0
    have h1' : i < x 10 0 0 := h1
    unfold rsM
    rw [if_pos ⟨Or.inr (Or.inr rfl), h0, h1', rfl⟩]; rfl
  | j + 1 => UW_act (UW_rep x d j) _ _
theorem UW_cE {a b : gX} (e : cE (a 10 0 0) a b) (h : UW a) : UW b := fun i h0 h1 h2 => by
  rw [e 10 0 0 (by omega)] at h1
  rw [e 6 i 0 (by omega)] at h2
  rw [e 7 i 0 (by omega)]
  exact h i h0 h1 h2
theorem INV_UW {z : gX} (h : INV z) : UW z := by
  have c := (CUR_cE h.2.2.2.1).2
  refine UW_cE (a := repM z 0 (z 16 0 0)) (by rw [repM_10]; exact cE_sy c) (UW_rep z 0 _)
/-! a deed more -/
theorem perM_cE {z : gX} {w h : Int} (hw : wOK z w h) : cE (z 10 0 0) (actM z w h) (perM z w h) := actM_cE (a := z) (b := addM z w h) (fun k i j q => by rw [addM_k z w h (by omega) (by omega) (by omega)]) rfl hw
theorem perM_d (z : gX) (w h : Int) {k : Int} (hk : k = 21 ∨ k = 22 ∨ k = 16) : perM z w h k = addM z w h k := by
  unfold perM
  exact actM_k (by omega) (by omega) (by omega) (by omega)
theorem perM_old (z : gX) (w h : Int) {b j : Int} (h1 : b ≠ 0 ∨ j ≠ z 16 0 0) : perM z w h 21 b j = z 21 b j ∧ perM z w h 22 b j = z 22 b j := by
  rw [perM_d z w h (Or.inl rfl), perM_d z w h (Or.inr (Or.inl rfl))]
  refine ⟨?_, ?_⟩
  · show xU (xU (xU z 21 0 (z 16 0 0) w) 22 0 (z 16 0 0) h) 16 0 0 (z 16 0 0 + 1) 21 b j = _
    rw [xU_k (by decide), xU_k (by decide), xU_at, if_neg (by omega)]
  · show xU (xU (xU z 21 0 (z 16 0 0) w) 22 0 (z 16 0 0) h) 16 0 0 (z 16 0 0 + 1) 22 b j = _
    rw [xU_k (by decide), xU_at, if_neg (by omega), xU_k (by decide)]
theorem perM_new (z : gX) (w h : Int) : perM z w h 21 0 (z 16 0 0) = w ∧ perM z w h 22 0 (z 16 0 0) = h := by
  rw [perM_d z w h (Or.inl rfl), perM_d z w h (Or.inr (Or.inl rfl))]
  refine ⟨?_, ?_⟩
  · show xU (xU (xU z 21 0 (z 16 0 0) w) 22 0 (z 16 0 0) h) 16 0 0 (z 16 0 0 + 1) 21 0 (z 16 0 0) = _
    rw [xU_k (by decide), xU_k (by decide), xU_same]
  · show xU (xU (xU z 21 0 (z 16 0 0) w) 22 0 (z 16 0 0) h) 16 0 0 (z 16 0 0 + 1) 22 0 (z 16 0 0) = _
    rw [xU_k (by decide), xU_same]
theorem perM_16b (z : gX) (w h : Int) {b : Int} (hb : b ≠ 0) : perM z w h 16 b 0 = z 16 b 0 := by
  rw [perM_d z w h (Or.inr (Or.inr rfl))]
  show xU (xU (xU z 21 0 (z 16 0 0) w) 22 0 (z 16 0 0) h) 16 0 0 (z 16 0 0 + 1) 16 b 0 = _
  rw [xU_at, if_neg (by omega), xU_k (by decide), xU_k (by decide)]
theorem perM_cS (z : gX) (w h : Int) : cS (z 10 0 0) z (perM z w h) := fun k i j q c => by rw [perM_at z w h (by omega) (by omega) (by omega) (by omega) (by omega) (by omega) (by omega)]
theorem Rel_per {z : gX} {y y2 : gY} {w h : Int} (hRel : Rel z y) (hn : z 16 0 0 < 40) (hw : wOK z w h) (hs : w = 1 → z 5 h 0 < 3) (ht : w = 2 → z 6 h 0 = -9)
    (e0 : y2 40 0 = z 16 0 0 + 1) (eP : ∀ k : Int, 0 ≤ k → k < 16 → y2 40 (17 + 16 * z 16 0 0 + k) = y 40 (1 + k)) (eS : SB (perM z w h) y2 0)
    (eo : ∀ j : Int, 17 ≤ j → j < 2628 → ¬ (17 + 16 * z 16 0 0 ≤ j ∧ j < 17 + 16 * z 16 0 0 + 16) → y2 40 j = y 40 j) (ek : ∀ k : Int, k ≠ 40 → y2 k = y k) : Rel (perM z w h) y2 := by
  have hSB := Rel_SB hRel
  have hs3 := fun i h0 h1 => sal3 hRel.1 (i := i) h0 h1
  obtain ⟨⟨hN, hW, hD, hC, hM⟩, hST, hB, hR, hT⟩ := hRel
  have h10 := hN.2.1
  have hn0 := hD.1.1.1
  have hNp := perM_NOK hN hw (fun q => by have := hs q; omega)
  have c10 : perM z w h 10 0 0 = z 10 0 0 := by rw [perM_at z w h (by decide) (by decide) (by decide) (by decide) (by decide) (by decide) (by decide)]
  have c16 := perM_16 z w h
  have hCc := (CUR_cE hC).2
  have hcS := perM_cS z w h
  have hL0 := hD.2 0 (by decide) (by decide)
  have old0 : ∀ j : Int, 0 ≤ j → j < z 16 0 0 → perM z w h 21 0 j = z 21 0 j ∧ perM z w h 22 0 j = z 22 0 j := fun j j0 j1 => perM_old z w h (Or.inr (by omega))
  have oldb : ∀ b j : Int, 1 ≤ b → perM z w h 21 b j = z 21 b j ∧ perM z w h 22 b j = z 22 b j := fun b j hb => perM_old z w h (Or.inl (by omega))
  have rep0 : ∀ j : Int, 0 ≤ j → j ≤ z 16 0 0 → cE (z 10 0 0) (repM z 0 j) (repM (perM z w h) 0 j) := fun j j0 j1 => repM_cE hcS rfl (LOK_DOK hL0) old0 j0 j1
  have repn : cE (z 10 0 0) z (repM (perM z w h) 0 (z 16 0 0)) := cE_tr hCc (rep0 _ hn0 (Int.le_refl _))
  have repl : cE (z 10 0 0) (perM z w h) (repM (perM z w h) 0 (z 16 0 0 + 1)) := by
    rw [repM_s _ _ hn0, (perM_new z w h).1, (perM_new z w h).2]
    exact cE_tr (cE_sy (perM_cE hw)) (actM_cE repn rfl hw)
  have hwP : wOK (perM z w h) w h := by unfold wOK; rw [c10]; exact hw
  have hL0' : LOK (perM z w h) 0 (z 16 0 0 + 1) := fun j j0 j1 => by
    rcases (show j < z 16 0 0 ∨ j = z 16 0 0 by omega) with c | c
    · exact LOK_cE hcS rfl hL0 old0 j j0 c
    · rw [c, (perM_new z w h).1, (perM_new z w h).2]
      refine ⟨hwP, fun q => ?_, fun q => ?_⟩
      · have hh := hw.2.2 (by omega)
        rw [repn 5 h 0 (by omega)]; exact hs q
      · have hh := hw.2.2 (by omega)
        rw [repn 6 h 0 (by omega)]; exact ht q
  have hD' : DDI (perM z w h) := by
    refine ⟨⟨by rw [c16]; omega, fun b b0 b1 => by rw [perM_16b z w h (by omega)]; exact hD.1.2 b b0 b1⟩, fun b b0 b1 => ?_⟩
    rcases (show b = 0 ∨ 1 ≤ b by omega) with c | c
    · rw [c, c16]; exact hL0'
    · rw [perM_16b z w h (by omega)]
      exact LOK_cE hcS rfl (hD.2 b b0 b1) (fun j _ _ => oldb b j c)
  have hC' : CUR (perM z w h) := cE_CUR (by rw [c10, c16]; exact repl)
  have kk : ∀ k : Int, 17 ≤ k → k ≠ 21 → k ≠ 22 → perM z w h k = z k := fun k k0 k1 k2 => perM_at z w h (by omega) (by omega) (by omega) (by omega) (by omega) k1 k2
  have k89 : ∀ k : Int, k = 8 ∨ k = 9 → perM z w h k = z k := fun k hk => perM_at z w h (by omega) (by omega) (by omega) (by omega) (by omega) (by omega) (by omega)
  refine ⟨⟨hNp, fun r r0 r1 => by rw [kk 17 (by decide) (by decide) (by decide), kk 20 (by decide) (by decide) (by decide)]; exact hW r r0 r1, hD', hC', ?_⟩, ?_, ?_, ?_, ?_⟩
  · unfold MSC dOK
    rw [kk 38 (by decide) (by decide) (by decide), kk 39 (by decide) (by decide) (by decide)]
    refine ⟨hM.1, ?_, ?_⟩
    · show perM z w h 6 6 0 = -9
      have e : addM z w h 6 6 0 = -9 := by rw [addM_k z w h (by decide) (by decide) (by decide)]; exact hM.2.1
      unfold perM
      unfold actM
      split
      · exact e
      · split
        · exact e
        · split
          · have hh := hw.2.2 (by omega)
            rw [xU_k (by decide), xU_k (by decide), xU_at, if_neg (by omega)]; exact e
          · exact e
    · have e : addM z w h 7 6 0 = 0 := by rw [addM_k z w h (by decide) (by decide) (by decide)]; exact hM.2.2
      unfold perM
      unfold actM
      split
      · exact e
      · split
        · exact e
        · split
          · have hh := hw.2.2 (by omega)
            rw [xU_k (by decide), xU_at, if_neg (by omega), xU_k (by decide)]; exact e
          · exact e
  · have st : ∀ k i : Int, (1 ≤ k ∧ k ≤ 4) ∨ (10 ≤ k ∧ k ≤ 14) → perM z w h k i 0 = z k i 0 := fun k i hk => by rw [perM_at z w h (by omega) (by omega) (by omega) (by omega) (by omega) (by omega) (by omega)]
    unfold ST
    rw [ek 1 (by decide), ek 2 (by decide), ek 3 (by decide), ek 4 (by decide), ek 5 (by decide), ek 41 (by decide), ek 42 (by decide), ek 43 (by decide), ek 44 (by decide), st 10 0 (by decide), st 11 0 (by decide), st 12 0 (by decide), st 13 0 (by decide), st 14 0 (by decide)]
    obtain ⟨s1, s2, s3, s4, s5, s6⟩ := hST
    refine ⟨s1, s2, s3, s4, s5, fun i i0 i1 => ?_⟩
    rw [st 1 i (by decide), st 2 i (by decide), st 3 i (by decide), st 4 i (by decide)]
    exact s6 i i0 i1
  · intro b b0 b1
    unfold BL
    rcases (show b = 0 ∨ 1 ≤ b by omega) with c | c
    · subst c
      rw [c16]
      refine ⟨by rw [show (657 : Int) * 0 = 0 by decide]; exact e0, fun _ => ⟨fun k k0 k1 => ?_, fun j k j0 j1 k0 k1 => ?_⟩⟩
      · rw [show (657 : Int) * 0 + 1 + k = 0 + 1 + k by omega, eS k k0 k1]
        exact (sn_cE (by rw [c10]; exact repl) k0 k1).symm
      · rcases (show j < z 16 0 0 ∨ j = z 16 0 0 by omega) with g | g
        · rw [eo _ (by omega) (by omega) (by omega), ((hB 0 (by decide) (by decide)).2 hn0).2 j k j0 g k0 k1]
          exact (sn_cE (by rw [repM_10]; exact rep0 j j0 (by omega)) k0 k1).symm
        · rw [g, show (657 : Int) * 0 + 17 + 16 * z 16 0 0 + k = 17 + 16 * z 16 0 0 + k by omega, eP k k0 k1, show (1 : Int) + k = 0 + 1 + k by omega, hSB k k0 k1]
          exact (sn_cE repn k0 k1).symm
    · have hb := hB b b0 b1
      have hbn := DDI_40 hD b0 b1
      rw [perM_16b z w h (by omega)]
      refine ⟨by rw [eo _ (by omega) (by omega) (by omega)]; exact hb.1, fun g => ⟨fun k k0 k1 => ?_, fun j k j0 j1 k0 k1 => ?_⟩⟩
      · rw [eo _ (by omega) (by omega) (by omega), (hb.2 g).1 k k0 k1]
        exact (sn_cE (by rw [repM_10]; exact repM_cE hcS rfl (LOK_DOK (hD.2 b b0 b1)) (fun j _ _ => oldb b j c) g (Int.le_refl _)) k0 k1).symm
      · rw [eo _ (by omega) (by omega) (by omega), (hb.2 g).2 j k j0 j1 k0 k1]
        exact (sn_cE (by rw [repM_10]; exact repM_cE hcS rfl (LOK_DOK (hD.2 b b0 b1)) (fun j _ _ => oldb b j c) j0 (by omega)) k0 k1).symm
  · unfold RWR
    rw [kk 17 (by decide) (by decide) (by decide), kk 20 (by decide) (by decide) (by decide), ek 45 (by decide), ek 46 (by decide), ek 47 (by decide), ek 48 (by decide)]
    exact hR
  · unfold TLR
    rw [kk 18 (by decide) (by decide) (by decide), kk 19 (by decide) (by decide) (by decide), kk 26 (by decide) (by decide) (by decide), k89 8 (Or.inl rfl), k89 9 (Or.inr rfl), ek 6 (by decide), ek 7 (by decide), ek 8 (by decide), ek 9 (by decide), ek 49 (by decide)]
    exact hT
