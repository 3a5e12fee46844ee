/-! what counts of a court; INV behind each call (the relation of whole, without its reference) -/
abbrev gq (k i : Int) : Prop := ((1 ≤ k ∧ k ≤ 7) ∨ (10 ≤ k ∧ k ≤ 16) ∨ k = 21 ∨ k = 22) ∧ ¬ (i = 6 ∧ 1 ≤ k ∧ k ≤ 5)
def qE (a b : gX) : Prop := ∀ k i j : Int, gq k i → b k i j = a k i j
theorem vU_g {a b : gX} (e : qE a b) {i : Int} (hi : i ≠ 6) (h : Int) : vU b i h = vU a i h := by
  show (fun (p m he k g bb hd s : Int) => if sComes k g bb h then (if 0 < sBurn p m k bb hd h - he - 2 * s then (0 : Int) else 1) else 2) (b 11 0 0) (b 12 0 0) (b 13 0 0) (b 1 i 0) (b 2 i 0) (b 3 i 0) (b 4 i 0) (b 5 i 0) = (fun (p m he k g bb hd s : Int) => if sComes k g bb h then (if 0 < sBurn p m k bb hd h - he - 2 * s then (0 : Int) else 1) else 2) (a 11 0 0) (a 12 0 0) (a 13 0 0) (a 1 i 0) (a 2 i 0) (a 3 i 0) (a 4 i 0) (a 5 i 0)
  rw [e 1 i 0 (by omega), e 2 i 0 (by omega), e 3 i 0 (by omega), e 4 i 0 (by omega), e 5 i 0 (by omega), e 11 0 0 (by omega), e 12 0 0 (by omega), e 13 0 0 (by omega)]
theorem tcU_g {a b : gX} (e : qE a b) (h6 : a 10 0 0 ≤ 6) : tcU b = tcU a := by
  show sumZ (fun i => if b 6 i 0 = 1 then 1 else 0) (b 10 0 0) = _
  rw [e 10 0 0 (by omega)]
  exact sumZ_cong (fun i _ h => by rw [e 6 i 0 (by omega)])
theorem twU_g {a b : gX} (e : qE a b) (h6 : a 10 0 0 ≤ 6) : twU b = twU a := by
  show sumZ (fun i => if b 7 i 0 = 1 then 1 else 0) (b 10 0 0) = _
  rw [e 10 0 0 (by omega)]
  exact sumZ_cong (fun i _ h => by rw [e 7 i 0 (by omega)])
theorem trU_g {a b : gX} (e : qE a b) (h6 : a 10 0 0 ≤ 6) : trU b = trU a := by
  show sumZ (fun i => if b 6 i 0 ≠ -9 then p2 i else 0) (b 10 0 0) = _
  rw [e 10 0 0 (by omega)]
  exact sumZ_cong (fun i _ h => by rw [e 6 i 0 (by omega)])
theorem qE_xU {a b : gX} (e : qE a b) {k i j v w : Int} (h : gq k i → w = v) : qE (xU a k i j v) (xU b k i j w) := fun k1 i1 j1 q => by
  unfold xU
  by_cases c : k1 = k ∧ i1 = i ∧ j1 = j
  · rw [if_pos c, if_pos c, h (by rw [← c.1, ← c.2.1]; exact q)]
  · rw [if_neg c, if_neg c]; exact e k1 i1 j1 q
theorem actM_g {a b : gX} (e : qE a b) (h6 : a 10 0 0 ≤ 6) {w h : Int} (hw : wOK a w h) : qE (actM a w h) (actM b w h) := by
  rcases (show w = 0 ∨ w = 1 ∨ w = 2 ∨ (w ≠ 0 ∧ w ≠ 1 ∧ w ≠ 2) by omega) with q | q | q | q
  · rw [actM_w0 q, actM_w0 q]
    exact qE_xU e (fun _ => by rw [e 15 0 0 (by omega)])
  · rw [actM_w1 q, actM_w1 q]
    exact qE_xU e (fun c => by rw [e 5 h 0 c])
  · have hh := hw.2.2 (by omega)
    have ev : vU b h (b 15 0 0) = vU a h (a 15 0 0) := by rw [e 15 0 0 (by omega)]; exact vU_g e (by omega) _
    have e1 : qE (xU a 6 h 0 (vU a h (a 15 0 0))) (xU b 6 h 0 (vU b h (b 15 0 0))) := qE_xU e (fun _ => ev)
    rw [actM_w2 q, actM_w2 q]
    refine qE_xU (qE_xU e1 (fun _ => by rw [ev, e 2 h 0 (by omega)])) (fun _ => ?_)
    rw [tcU_g e1 h6, ev, e 14 0 0 (by omega), e 15 0 0 (by omega)]
  · rw [actM_w3 q, actM_w3 q]; exact e
theorem qE_rs {a b : gX} (e : qE a b) (m : Int) : qE (rsM (xU a 15 0 0 8) m) (rsM (xU b 15 0 0 8) m) := fun k i j q => by
  unfold rsM
  refine ite_congr rfl (fun _ => rfl) (fun _ => ?_)
  exact qE_xU e (fun _ => rfl) k i j q
theorem repN_g {a b : gX} (e : qE a b) (h6 : a 10 0 0 ≤ 6) {d n : Int} (hD : DOK a d n) : ∀ j : Nat, (j : Int) ≤ n → qE (repN a d j) (repN b d j)
  | 0, _ => by
    show qE (rsM (xU a 15 0 0 8) (a 10 0 0)) (rsM (xU b 15 0 0 8) (b 10 0 0))
    rw [e 10 0 0 (by omega)]
    exact qE_rs e _
  | j + 1, h => by
    have ih := repN_g e h6 hD j (by omega)
    have e10 : repN a d j 10 = a 10 := repN_k (by decide) (by decide) (by decide) (by decide) j
    show qE (actM (repN a d j) (a 21 d (j : Int)) (a 22 d (j : Int))) (actM (repN b d j) (b 21 d (j : Int)) (b 22 d (j : Int)))
    rw [e 21 d j (by omega), e 22 d j (by omega)]
    refine actM_g ih (by rw [e10]; exact h6) ?_
    unfold wOK
    rw [e10]
    exact hD (j : Int) (by omega) (by omega)
theorem repM_g {a b : gX} (e : qE a b) (h6 : a 10 0 0 ≤ 6) {d n j : Int} (hD : DOK a d n) (h0 : 0 ≤ j) (h1 : j ≤ n) : qE (repM a d j) (repM b d j) := repN_g e h6 hD j.toNat (by omega)
theorem NOK_g {a b : gX} (e : qE a b) (h : NOK a) : NOK b := by
  unfold NOK IOK
  rw [e 10 0 0 (by omega), e 11 0 0 (by omega), e 12 0 0 (by omega), e 13 0 0 (by omega), e 14 0 0 (by omega), e 15 0 0 (by omega)]
  refine ⟨h.1, h.2.1, h.2.2.1, fun i h0 h1 => ?_⟩
  have := h.2.1
  unfold MOK
  rw [e 1 i 0 (by omega), e 2 i 0 (by omega), e 3 i 0 (by omega), e 4 i 0 (by omega), e 5 i 0 (by omega), e 6 i 0 (by omega), e 7 i 0 (by omega)]
  exact h.2.2.2 i h0 h1
theorem LOK_g {a b : gX} (e : qE a b) (h6 : a 10 0 0 ≤ 6) {d n : Int} (h : LOK a d n) : LOK b d n := fun j h0 h1 => by
  obtain ⟨q1, q2, q3⟩ := h j h0 h1
  have er := repM_g e h6 (LOK_DOK h) h0 (by omega : j ≤ n)
  rw [e 21 d j (by omega), e 22 d j (by omega)]
  refine ⟨?_, fun w => ?_, fun w => ?_⟩
  · unfold wOK; rw [e 10 0 0 (by omega)]; exact q1
  · have hh := q1.2.2 (by omega)
    rw [er 5 (a 22 d j) 0 (by omega)]; exact q2 w
  · have hh := q1.2.2 (by omega)
    rw [er 6 (a 22 d j) 0 (by omega)]; exact q3 w
theorem DDI_g {a b : gX} (e : qE a b) (h6 : a 10 0 0 ≤ 6) (h : DDI a) : DDI b := by
  obtain ⟨⟨h1, h2⟩, h3⟩ := h
  refine ⟨⟨by rw [e 16 0 0 (by omega)]; exact h1, fun q q0 q1 => by rw [e 16 q 0 (by omega)]; exact h2 q q0 q1⟩, fun q q0 q1 => ?_⟩
  rw [e 16 q 0 (by omega)]
  exact LOK_g e h6 (h3 q q0 q1)
theorem CUR_g {a b : gX} (e : qE a b) (h6 : a 10 0 0 ≤ 6) (hD : DDI a) (h : CUR a) : CUR b := by
  have er := repM_g e h6 (LOK_DOK (hD.2 0 (by decide) (by decide))) hD.1.1.1 (Int.le_refl _)
  unfold CUR
  rw [e 16 0 0 (by omega), e 15 0 0 (by omega), e 10 0 0 (by omega), er 15 0 0 (by omega)]
  refine ⟨h.1, fun i h0 h1 => ?_⟩
  rw [e 5 i 0 (by omega), e 6 i 0 (by omega), e 7 i 0 (by omega), er 5 i 0 (by omega), er 6 i 0 (by omega), er 7 i 0 (by omega)]
  exact h.2 i h0 h1
theorem DDI_40 {a : gX} (h : DDI a) {d : Int} (h0 : 0 ≤ d) (h1 : d < 4) : a 16 d 0 ≤ 40 := by
  rcases (show d = 0 ∨ 1 ≤ d by omega) with q | q
  · rw [q]; exact h.1.1.2
  · exact (h.1.2 d q h1).2
def kE (a b : gX) : Prop := ∀ k : Int, k ≠ 8 → k ≠ 9 → k ≠ 17 → k ≠ 18 → k ≠ 19 → k ≠ 20 → k ≠ 26 → b k = a k
theorem kE_g {a b : gX} (e : kE a b) : qE a b := fun k i j c => by rw [e k (by unfold gq at c; omega) (by unfold gq at c; omega) (by unfold gq at c; omega) (by unfold gq at c; omega) (by unfold gq at c; omega) (by unfold gq at c; omega) (by unfold gq at c; omega)]
theorem kE_M {a b : gX} (e : kE a b) (h : MSC a) : MSC b := by
  unfold MSC dOK
  rw [e 38 (by decide) (by decide) (by decide) (by decide) (by decide) (by decide) (by decide), e 39 (by decide) (by decide) (by decide) (by decide) (by decide) (by decide) (by decide), e 6 (by decide) (by decide) (by decide) (by decide) (by decide) (by decide) (by decide), e 7 (by decide) (by decide) (by decide) (by decide) (by decide) (by decide) (by decide)]
  exact h
theorem sal3N {x : gX} {b n : Int} (hL : LOK x b n) : ∀ j : Nat, (j : Int) ≤ n → ∀ i : Int, 0 ≤ i → i < x 10 0 0 → repN x b j 5 i 0 ≤ 3
  | 0, _, i, h0, h1 => by
    show rsM (xU x 15 0 0 8) (x 10 0 0) 5 i 0 ≤ 3
    unfold rsM
    rw [if_pos ⟨Or.inl rfl, h0, h1, rfl⟩]; decide
  | j + 1, hj, i, h0, h1 => by
    have ih := sal3N hL j (by omega) i h0 h1
    have q := (hL (j : Int) (by omega) (by omega)).2.1
    show actM (repN x b j) (x 21 b (j : Int)) (x 22 b (j : Int)) 5 i 0 ≤ 3
    unfold actM
    split
    · rw [xU_k (by decide)]; exact ih
    · split
      · rename_i h
        rw [xU_at]
        split
        · have e := q h
          have e2 : repM x b (j : Int) = repN x b j := by unfold repM; rw [Int.toNat_natCast]
          rw [e2] at e
          omega
        · exact ih
      · split
        · rw [xU_k (by decide), xU_k (by decide), xU_k (by decide)]; exact ih
        · exact ih
theorem sal3 {x : gX} (hV : INV x) {i : Int} (h0 : 0 ≤ i) (h1 : i < x 10 0 0) : x 5 i 0 ≤ 3 := by
  obtain ⟨_, _, hD, hC, _⟩ := hV
  rw [(hC.2 i h0 h1).1]
  exact sal3N (hD.2 0 (by decide) (by decide)) _ (by have := hD.1.1; omega) i h0 h1
abbrev cQ (m k i j : Int) : Prop := ((1 ≤ k ∧ k ≤ 7) ∧ 0 ≤ i ∧ i < m ∧ j = 0) ∨ ((10 ≤ k ∧ k ≤ 15) ∧ i = 0 ∧ j = 0)
def cE (m : Int) (a b : gX) : Prop := ∀ k i j : Int, cQ m k i j → b k i j = a k i j
def cS (m : Int) (a b : gX) : Prop := ∀ k i j : Int, cQ m k i j → k ≤ 4 ∨ (10 ≤ k ∧ k ≤ 14) → b k i j = a k i j
theorem cE_S {m : Int} {a b : gX} (e : cE m a b) : cS m a b := fun k i j q _ => e k i j q
theorem cE_sy {m : Int} {a b : gX} (e : cE m a b) : cE m b a := fun k i j q => (e k i j q).symm
theorem cE_tr {m : Int} {a b c : gX} (e : cE m a b) (f : cE m b c) : cE m a c := fun k i j q => (f k i j q).trans (e k i j q)
theorem cE_rf (m : Int) (a : gX) : cE m a a := fun _ _ _ _ => rfl
theorem vU_cE {m : Int} {a b : gX} (e : cE m a b) {i : Int} (h0 : 0 ≤ i) (h1 : i < m) (h : Int) : vU b i h = vU a i h := by
  show (fun (p mm he k g bb hd s : Int) => if sComes k g bb h then (if 0 < sBurn p mm k bb hd h - he - 2 * s then (0 : Int) else 1) else 2) (b 11 0 0) (b 12 0 0) (b 13 0 0) (b 1 i 0) (b 2 i 0) (b 3 i 0) (b 4 i 0) (b 5 i 0) = (fun (p mm he k g bb hd s : Int) => if sComes k g bb h then (if 0 < sBurn p mm k bb hd h - he - 2 * s then (0 : Int) else 1) else 2) (a 11 0 0) (a 12 0 0) (a 13 0 0) (a 1 i 0) (a 2 i 0) (a 3 i 0) (a 4 i 0) (a 5 i 0)
  rw [e 1 i 0 (by omega), e 2 i 0 (by omega), e 3 i 0 (by omega), e 4 i 0 (by omega), e 5 i 0 (by omega), e 11 0 0 (by omega), e 12 0 0 (by omega), e 13 0 0 (by omega)]
theorem tcU_cE {a b : gX} (e : cE (a 10 0 0) a b) : tcU b = tcU a := by
  show sumZ (fun i => if b 6 i 0 = 1 then 1 else 0) (b 10 0 0) = _
  rw [e 10 0 0 (by omega)]
  exact sumZ_cong (fun i h0 h => by rw [e 6 i 0 (by omega)])
theorem twU_cE {a b : gX} (e : cE (a 10 0 0) a b) : twU b = twU a := by
  show sumZ (fun i => if b 7 i 0 = 1 then 1 else 0) (b 10 0 0) = _
  rw [e 10 0 0 (by omega)]
  exact sumZ_cong (fun i h0 h => by rw [e 7 i 0 (by omega)])
theorem trU_cE {a b : gX} (e : cE (a 10 0 0) a b) : trU b = trU a := by
  show sumZ (fun i => if b 6 i 0 ≠ -9 then p2 i else 0) (b 10 0 0) = _
  rw [e 10 0 0 (by omega)]
  exact sumZ_cong (fun i h0 h => by rw [e 6 i 0 (by omega)])
theorem cE_xU {m : Int} {a b : gX} (e : cE m a b) {k i j v w : Int} (h : cQ m k i j → w = v) : cE m (xU a k i j v) (xU b k i j w) := fun k1 i1 j1 q => by
  unfold xU
  by_cases c : k1 = k ∧ i1 = i ∧ j1 = j
  · rw [if_pos c, if_pos c, h (by rw [← c.1, ← c.2.1, ← c.2.2]; exact q)]
  · rw [if_neg c, if_neg c]; exact e k1 i1 j1 q
theorem actM_cE {m : Int} {a b : gX} (e : cE m a b) (hm : a 10 0 0 = m) {w h : Int} (hw : wOK a w h) : cE m (actM a w h) (actM b w h) := by
  rcases (show w = 0 ∨ w = 1 ∨ w = 2 ∨ (w ≠ 0 ∧ w ≠ 1 ∧ w ≠ 2) by omega) with q | q | q | q
  · rw [actM_w0 q, actM_w0 q]
    exact cE_xU e (fun _ => by rw [e 15 0 0 (by omega)])
  · rw [actM_w1 q, actM_w1 q]
    exact cE_xU e (fun c => by rw [e 5 h 0 c])
  · have hh := hw.2.2 (by omega)
    have ev : vU b h (b 15 0 0) = vU a h (a 15 0 0) := by rw [e 15 0 0 (by omega)]; exact vU_cE e hh.1 (by omega) _
    have e1 : cE m (xU a 6 h 0 (vU a h (a 15 0 0))) (xU b 6 h 0 (vU b h (b 15 0 0))) := cE_xU e (fun _ => ev)
    have e3 : tcU (xU b 6 h 0 (vU b h (b 15 0 0))) = tcU (xU a 6 h 0 (vU a h (a 15 0 0))) := tcU_cE (a := xU a 6 h 0 (vU a h (a 15 0 0))) (by show cE (a 10 0 0) _ _; rw [hm]; exact e1)
    rw [actM_w2 q, actM_w2 q]
    refine cE_xU (cE_xU e1 (fun _ => by rw [ev, e 2 h 0 (by omega)])) (fun _ => ?_)
    rw [e3, ev, e 14 0 0 (by omega), e 15 0 0 (by omega)]
  · rw [actM_w3 q, actM_w3 q]; exact e
theorem rsM_cE {m : Int} {a b : gX} (e : cS m a b) : cE m (rsM (xU a 15 0 0 8) m) (rsM (xU b 15 0 0 8) m) := fun k i j q => by
  unfold rsM
  refine ite_congr rfl (fun _ => rfl) (fun c => ?_)
  unfold xU
  refine ite_congr rfl (fun _ => rfl) (fun c2 => ?_)
  exact e k i j q (by omega)
theorem repN_cE {m d d' n : Int} {a b : gX} (e : cS m a b) (ha : a 10 0 0 = m) (hD : DOK a d n) (hd : ∀ j : Int, 0 ≤ j → j < n → b 21 d' j = a 21 d j ∧ b 22 d' j = a 22 d j) : ∀ j : Nat, (j : Int) ≤ n → cE m (repN a d j) (repN b d' j)
  | 0, _ => by
    show cE m (rsM (xU a 15 0 0 8) (a 10 0 0)) (rsM (xU b 15 0 0 8) (b 10 0 0))
    rw [e 10 0 0 (by omega) (by omega), ha]
    exact rsM_cE e
  | j + 1, h => by
    have ih := repN_cE e ha hD hd j (by omega)
    have e10 : repN a d j 10 = a 10 := repN_k (by decide) (by decide) (by decide) (by decide) j
    show cE m (actM (repN a d j) (a 21 d (j : Int)) (a 22 d (j : Int))) (actM (repN b d' j) (b 21 d' (j : Int)) (b 22 d' (j : Int)))
    rw [(hd (j : Int) (by omega) (by omega)).1, (hd (j : Int) (by omega) (by omega)).2]
    refine actM_cE ih (by rw [e10]; exact ha) ?_
    unfold wOK
    rw [e10]
    exact hD (j : Int) (by omega) (by omega)
theorem repM_cE {m d d' n j : Int} {a b : gX} (e : cS m a b) (ha : a 10 0 0 = m) (hD : DOK a d n) (hd : ∀ j : Int, 0 ≤ j → j < n → b 21 d' j = a 21 d j ∧ b 22 d' j = a 22 d j) (h0 : 0 ≤ j) (h1 : j ≤ n) : cE m (repM a d j) (repM b d' j) := repN_cE e ha hD hd j.toNat (by omega)
theorem repM_10 (a : gX) (d j : Int) : repM a d j 10 0 0 = a 10 0 0 := by rw [repM_k (by decide) (by decide) (by decide) (by decide)]
theorem LOK_cE {m d d' n : Int} {a b : gX} (e : cS m a b) (ha : a 10 0 0 = m) (hL : LOK a d n) (hd : ∀ j : Int, 0 ≤ j → j < n → b 21 d' j = a 21 d j ∧ b 22 d' j = a 22 d j) : LOK b d' n := fun j h0 h1 => by
  obtain ⟨q1, q2, q3⟩ := hL j h0 h1
  have er := repM_cE e ha (LOK_DOK hL) hd h0 (by omega : j ≤ n)
  rw [(hd j h0 h1).1, (hd j h0 h1).2]
  refine ⟨?_, fun w => ?_, fun w => ?_⟩
  · unfold wOK; rw [e 10 0 0 (by omega) (by omega)]; exact q1
  · have hh := q1.2.2 (by omega)
    rw [er 5 (a 22 d j) 0 (by omega)]; exact q2 w
  · have hh := q1.2.2 (by omega)
    rw [er 6 (a 22 d j) 0 (by omega)]; exact q3 w
theorem CUR_cE {a : gX} (h : CUR a) (e : cS (a 10 0 0) a a := fun _ _ _ _ _ => rfl) : cS (a 10 0 0) a (repM a 0 (a 16 0 0)) ∧ cE (a 10 0 0) a (repM a 0 (a 16 0 0)) := by
  have key : cE (a 10 0 0) a (repM a 0 (a 16 0 0)) := fun k i j q => by
    rcases (show k = 15 ∨ k = 5 ∨ k = 6 ∨ k = 7 ∨ (k ≠ 5 ∧ k ≠ 6 ∧ k ≠ 7 ∧ k ≠ 15) by omega) with c | c | c | c | c
    · have hi : i = 0 ∧ j = 0 := by omega
      rw [c, hi.1, hi.2]; exact h.1.symm
    · have hi : (0 ≤ i ∧ i < a 10 0 0) ∧ j = 0 := by omega
      rw [c, hi.2]; exact (h.2 i hi.1.1 hi.1.2).1.symm
    · have hi : (0 ≤ i ∧ i < a 10 0 0) ∧ j = 0 := by omega
      rw [c, hi.2]; exact (h.2 i hi.1.1 hi.1.2).2.1.symm
    · have hi : (0 ≤ i ∧ i < a 10 0 0) ∧ j = 0 := by omega
      rw [c, hi.2]; exact (h.2 i hi.1.1 hi.1.2).2.2.symm
    · rw [repM_k c.1 c.2.1 c.2.2.1 c.2.2.2]
  exact ⟨cE_S key, key⟩
theorem cE_CUR {a : gX} (key : cE (a 10 0 0) a (repM a 0 (a 16 0 0))) : CUR a := ⟨(key 15 0 0 (by omega)).symm, fun i h0 h1 => ⟨(key 5 i 0 (by omega)).symm, (key 6 i 0 (by omega)).symm, (key 7 i 0 (by omega)).symm⟩⟩
def UW (z : gX) : Prop := ∀ i : Int, 0 ≤ i → i < z 10 0 0 → z 6 i 0 = -9 → z 7 i 0 = 0
theorem UW_act {z : gX} (h : UW z) (w q : Int) : UW (actM z w q) := by
  rcases (show w = 0 ∨ w = 1 ∨ w = 2 ∨ (w ≠ 0 ∧ w ≠ 1 ∧ w ≠ 2) by omega) with e | e | e | e
  · rw [actM_w0 e]; exact h
  · rw [actM_w1 e]; exact h
  · rw [actM_w2 e]
    intro i h0 h1 h2
    have hv := vU_r z q (z 15 0 0)
    rw [xU_k (by decide), xU_k (by decide), xU_at] at h2
    rw [xU_k (by decide), xU_at]
    by_cases c : i = q ∧ (0 : Int) = 0
    · rw [if_pos c] at h2; omega
    · rw [if_neg c] at h2
      rw [if_neg c, xU_k (by decide)]
      exact h i h0 h1 h2
  · rw [actM_w3 e]; exact h
theorem UW_rep (x : gX) (d : Int) : ∀ j : Nat, UW (repN x d j)
  | 0 => fun i h0 h1 _ => by
    show rsM (xU x 15 0 0 8) (x 10 0 0) 7 i 0 = 0
    have h1' : i < x 10 0 0 := h1
    unfold rsM
    rw [if_pos ⟨Or.inr (Or.inr rfl), h0, h1', rfl⟩]; rfl
  | j + 1 => UW_act (UW_rep x d j) _ _
theorem UW_cE {a b : gX} (e : cE (a 10 0 0) a b) (h : UW a) : UW b := fun i h0 h1 h2 => by
  rw [e 10 0 0 (by omega)] at h1
  rw [e 6 i 0 (by omega)] at h2
  rw [e 7 i 0 (by omega)]
  exact h i h0 h1 h2
theorem INV_UW {z : gX} (h : INV z) : UW z := by
  have c := (CUR_cE h.2.2.2.1).2
  refine UW_cE (a := repM z 0 (z 16 0 0)) (by rw [repM_10]; exact cE_sy c) (UW_rep z 0 _)
theorem perM_cE {z : gX} {w h : Int} (hw : wOK z w h) : cE (z 10 0 0) (actM z w h) (perM z w h) := actM_cE (a := z) (b := addM z w h) (fun k i j q => by rw [addM_k z w h (by omega) (by omega) (by omega)]) rfl hw
theorem perM_d (z : gX) (w h : Int) {k : Int} (hk : k = 21 ∨ k = 22 ∨ k = 16) : perM z w h k = addM z w h k := by
  unfold perM
  exact actM_k (by omega) (by omega) (by omega) (by omega)
theorem perM_old (z : gX) (w h : Int) {b j : Int} (h1 : b ≠ 0 ∨ j ≠ z 16 0 0) : perM z w h 21 b j = z 21 b j ∧ perM z w h 22 b j = z 22 b j := by
  rw [perM_d z w h (Or.inl rfl), perM_d z w h (Or.inr (Or.inl rfl))]
  refine ⟨?_, ?_⟩
  · show xU (xU (xU z 21 0 (z 16 0 0) w) 22 0 (z 16 0 0) h) 16 0 0 (z 16 0 0 + 1) 21 b j = _
    rw [xU_k (by decide), xU_k (by decide), xU_at, if_neg (by omega)]
  · show xU (xU (xU z 21 0 (z 16 0 0) w) 22 0 (z 16 0 0) h) 16 0 0 (z 16 0 0 + 1) 22 b j = _
    rw [xU_k (by decide), xU_at, if_neg (by omega), xU_k (by decide)]
theorem perM_new (z : gX) (w h : Int) : perM z w h 21 0 (z 16 0 0) = w ∧ perM z w h 22 0 (z 16 0 0) = h := by
  rw [perM_d z w h (Or.inl rfl), perM_d z w h (Or.inr (Or.inl rfl))]
  refine ⟨?_, ?_⟩
  · show xU (xU (xU z 21 0 (z 16 0 0) w) 22 0 (z 16 0 0) h) 16 0 0 (z 16 0 0 + 1) 21 0 (z 16 0 0) = _
    rw [xU_k (by decide), xU_k (by decide), xU_same]
  · show xU (xU (xU z 21 0 (z 16 0 0) w) 22 0 (z 16 0 0) h) 16 0 0 (z 16 0 0 + 1) 22 0 (z 16 0 0) = _
    rw [xU_k (by decide), xU_same]
theorem perM_16b (z : gX) (w h : Int) {b : Int} (hb : b ≠ 0) : perM z w h 16 b 0 = z 16 b 0 := by
  rw [perM_d z w h (Or.inr (Or.inr rfl))]
  show xU (xU (xU z 21 0 (z 16 0 0) w) 22 0 (z 16 0 0) h) 16 0 0 (z 16 0 0 + 1) 16 b 0 = _
  rw [xU_at, if_neg (by omega), xU_k (by decide), xU_k (by decide)]
theorem perM_cS (z : gX) (w h : Int) : cS (z 10 0 0) z (perM z w h) := fun k i j q c => by rw [perM_at z w h (by omega) (by omega) (by omega) (by omega) (by omega) (by omega) (by omega)]
theorem rep6 {x : gX} (d : Int) {n : Int} (h6 : x 10 0 0 ≤ 6) (hD : DOK x d n) : ∀ j : Nat, (j : Int) ≤ n → repN x d j 6 6 0 = x 6 6 0 ∧ repN x d j 7 6 0 = x 7 6 0
  | 0, _ => by
    show rsM (xU x 15 0 0 8) (x 10 0 0) 6 6 0 = _ ∧ rsM (xU x 15 0 0 8) (x 10 0 0) 7 6 0 = _
    unfold rsM
    rw [if_neg (by omega), if_neg (by omega)]
    exact ⟨rfl, rfl⟩
  | j + 1, h => by
    have ih := rep6 d h6 hD j (by omega)
    have hw := hD (j : Int) (by omega) (by omega)
    show actM (repN x d j) (x 21 d (j : Int)) (x 22 d (j : Int)) 6 6 0 = _ ∧ actM (repN x d j) (x 21 d (j : Int)) (x 22 d (j : Int)) 7 6 0 = _
    rcases (show x 21 d (j : Int) = 0 ∨ x 21 d (j : Int) = 1 ∨ x 21 d (j : Int) = 2 ∨ (x 21 d (j : Int) ≠ 0 ∧ x 21 d (j : Int) ≠ 1 ∧ x 21 d (j : Int) ≠ 2) by omega) with c | c | c | c
    · rw [actM_w0 c, xU_k (by decide), xU_k (by decide)]; exact ih
    · rw [actM_w1 c, xU_k (by decide), xU_k (by decide)]; exact ih
    · have hh := hw.2.2 (by omega)
      rw [actM_w2 c]
      refine ⟨?_, ?_⟩
      · rw [xU_k (by decide), xU_k (by decide), xU_at, if_neg (by omega)]; exact ih.1
      · rw [xU_k (by decide), xU_at, if_neg (by omega), xU_k (by decide)]; exact ih.2
    · rw [actM_w3 c]; exact ih
theorem RWI_lay {a : gX} (h : RWI a) {R n v : Int} (hn : 0 ≤ n ∧ n ≤ (if R < 6 then 40 else 60)) (hv : -128 ≤ v ∧ v ≤ 127) : RWI (xU (flM a R v n) 17 R 0 n) := fun r r0 r1 => by
  obtain ⟨h1, h2, h3⟩ := h r r0 r1
  refine ⟨?_, fun j => ?_, fun h6 j => ?_⟩
  · rw [xU_at]
    split
    · rename_i q; rw [q.1]; omega
    · rw [flM_k _ _ _ _ (by decide)]; exact h1
  · rw [xU_k (by decide)]
    unfold flM
    split
    · omega
    · exact h2 j
  · rw [xU_k (by decide)]
    unfold flM
    split
    · omega
    · exact h3 h6 j
theorem RWI_at {a : gX} (h : RWI a) {R i v : Int} (hv : i32 v) (hb : 6 ≤ R → -128 ≤ v ∧ v ≤ 127) : RWI (xU a 20 R i v) := fun r r0 r1 => by
  obtain ⟨h1, h2, h3⟩ := h r r0 r1
  refine ⟨by rw [xU_k (by decide)]; exact h1, fun j => ?_, fun h6 j => ?_⟩
  · rw [xU_at]; split
    · exact hv
    · exact h2 j
  · rw [xU_at]; split
    · rename_i q; exact hb (by omega)
    · exact h3 h6 j
theorem couM_k (z : gX) (R : Int) {k : Int} (h : ¬ (1 ≤ k ∧ k ≤ 16)) : couM z R k = z k := by
  unfold couM ktM
  funext i j
  rw [if_neg (by omega), repM_k (by omega) (by omega) (by omega) (by omega)]
  unfold asR
  rw [xU_k (by omega)]
  unfold asN asHR
  rw [if_neg (by omega), xU_k (by omega), xU_k (by omega), xU_k (by omega), xU_k (by omega), xU_k (by omega)]
theorem couM_st (z : gX) (R : Int) {k : Int} (h : k ≠ 5 ∧ k ≠ 6 ∧ k ≠ 7 ∧ k ≠ 15 ∧ k ≠ 16) : couM z R k = asN z R k := by
  unfold couM ktM
  funext i j
  rw [if_neg (by omega), repM_k (by omega) (by omega) (by omega) (by omega)]
  unfold asR
  rw [xU_k (by omega)]
theorem couM_10 (z : gX) (R : Int) : couM z R 10 0 0 = rcF (z 20 R) (z 17 R 0) := by
  rw [couM_st z R (by decide)]
  unfold asN asHR
  rw [if_neg (by omega), xU_same]
theorem couM_567 (z : gX) (R : Int) {k i : Int} (hk : k = 5 ∨ k = 6 ∨ k = 7) (h0 : 0 ≤ i) (h1 : i < rcF (z 20 R) (z 17 R 0)) : couM z R k i 0 = if k = 6 then -9 else 0 := by
  unfold couM ktM
  rw [if_neg (by omega)]
  show rsM (xU (asR z R) 15 0 0 8) (asR z R 10 0 0) k i 0 = _
  unfold rsM
  rw [if_pos ⟨hk, h0, h1, rfl⟩]
theorem couM_15 (z : gX) (R : Int) : couM z R 15 0 0 = 8 := by
  unfold couM ktM
  rw [if_neg (by omega)]
  show rsM (xU (asR z R) 15 0 0 8) (asR z R 10 0 0) 15 0 0 = _
  rw [rsM_k (by decide) (by decide) (by decide), xU_same]
theorem couM_160 (z : gX) (R : Int) : couM z R 16 0 0 = 0 := by
  unfold couM ktM
  rw [if_neg (by omega), repM_k (by decide) (by decide) (by decide) (by decide)]
  unfold asR
  rw [xU_same]
theorem couM_16b (z : gX) (R : Int) {b : Int} (h0 : 1 ≤ b) (h1 : b < 4) : couM z R 16 b 0 = -1 := by
  unfold couM ktM
  rw [if_pos ⟨rfl, h0, by omega, rfl⟩]
theorem sum_0 {f : Int → Int} {n : Int} (h0 : 0 ≤ n) (h : ∀ i : Int, 0 ≤ i → i < n → f i = 0) : sumZ f n = 0 := by
  have := sumZ_range (f := f) (a := 0) (b := 0) h0 (fun i a b => by rw [h i a b]; exact ⟨Int.le_refl _, Int.le_refl _⟩)
  omega
theorem INV_g {a b : gX} (h : INV a) (e : qE a b) (hM : MSC b) (hW : RWI b) : INV b := by
  obtain ⟨hN, _, hD, hC, _⟩ := h
  have h6 := hN.2.1.2
  exact ⟨NOK_g e hN, hW, DDI_g e h6 hD, CUR_g e h6 hD hC, hM⟩
theorem INV_xG {a u : gX} (h : INV a) (e : xG a u) : INV u := by
  have q : ∀ k i j : Int, ¬ scr k i → u k i j = a k i j := e.1
  refine INV_g h (fun k i j c => q k i j (by unfold gq at c; unfold scr; omega)) ?_ ?_
  · obtain ⟨_, _, _, _, hM⟩ := h
    refine ⟨e.2 hM.1, ?_, ?_⟩
    · rw [q 6 6 0 (by unfold scr; omega)]; exact hM.2.1
    · rw [q 7 6 0 (by unfold scr; omega)]; exact hM.2.2
  · have hW := h.2.1
    intro r r0 r1
    rw [q 17 r 0 (by unfold scr; omega)]
    obtain ⟨a1, a2, a3⟩ := hW r r0 r1
    exact ⟨a1, fun j => by rw [q 20 r j (by unfold scr; omega)]; exact a2 j, fun h6 j => by rw [q 20 r j (by unfold scr; omega)]; exact a3 h6 j⟩
theorem INV_k {a b : gX} (h : INV a) (e : kE a b) (hW : RWI b) : INV b := INV_g h (kE_g e) (kE_M e h.2.2.2.2) hW
theorem INV_tell {a : gX} (h : INV a) (v : Int) : INV (xU a 19 0 0 v) := INV_k h (fun k _ _ _ _ h4 _ _ => xU_k h4) h.2.1
theorem INV_fnd {a : gX} (h : INV a) (f : Int) : INV (fnd a f) := INV_k h (fun k _ _ _ h3 _ _ h6 => by unfold fnd; rw [xU_k h6, xU_k h3]) h.2.1
theorem INV_tf {a : gX} (h : INV a) (u w : Int) : INV (tfM a u w) := INV_k h (fun k h8 h9 _ _ _ _ _ => by unfold tfM; rw [xU_k h9, xU_k h8]) h.2.1
theorem INV_lay {a : gX} (h : INV a) {R n v : Int} (hn : 0 ≤ n ∧ n ≤ (if R < 6 then 40 else 60)) (hv : -128 ≤ v ∧ v ≤ 127) : INV (xU (flM a R v n) 17 R 0 n) := INV_k h (fun k _ _ h1 _ _ h2 _ => by rw [xU_k h1, flM_k _ _ _ _ h2]) (RWI_lay h.2.1 hn hv)
theorem INV_at {a : gX} (h : INV a) {R i v : Int} (hv : i32 v) (hb : 6 ≤ R → -128 ≤ v ∧ v ≤ 127) : INV (xU a 20 R i v) := INV_k h (fun k _ _ _ _ _ h2 _ => xU_k h2) (RWI_at h.2.1 hv hb)
theorem INV_tear {a : gX} (h : INV a) (R : Int) : INV (xU a 17 R 0 (-1)) := INV_k h (fun k _ _ h2 _ _ _ _ => xU_k h2) (fun r r0 r1 => by
  obtain ⟨a1, a2, a3⟩ := h.2.1 r r0 r1
  refine ⟨?_, a2, a3⟩
  rw [xU_at]
  split
  · exact ⟨Int.le_refl _, by split <;> decide⟩
  · exact a1)
theorem INV_per {z : gX} {w h : Int} (hRel : INV z) (hn : z 16 0 0 < 40) (hw : wOK z w h) (hs : w = 1 → z 5 h 0 < 3) (ht : w = 2 → z 6 h 0 = -9) : INV (perM z w h) := by

  have hs3 := fun i h0 h1 => sal3 hRel (i := i) h0 h1
  obtain ⟨hN, hW, hD, hC, hM⟩ := hRel
  have h10 := hN.2.1
  have hn0 := hD.1.1.1
  have hNp := perM_NOK hN hw (fun q => by have := hs q; omega)
  have c10 : perM z w h 10 0 0 = z 10 0 0 := by rw [perM_at z w h (by decide) (by decide) (by decide) (by decide) (by decide) (by decide) (by decide)]
  have c16 := perM_16 z w h
  have hCc := (CUR_cE hC).2
  have hcS := perM_cS z w h
  have hL0 := hD.2 0 (by decide) (by decide)
  have old0 : ∀ j : Int, 0 ≤ j → j < z 16 0 0 → perM z w h 21 0 j = z 21 0 j ∧ perM z w h 22 0 j = z 22 0 j := fun j j0 j1 => perM_old z w h (Or.inr (by omega))
  have oldb : ∀ b j : Int, 1 ≤ b → perM z w h 21 b j = z 21 b j ∧ perM z w h 22 b j = z 22 b j := fun b j hb => perM_old z w h (Or.inl (by omega))
  have rep0 : ∀ j : Int, 0 ≤ j → j ≤ z 16 0 0 → cE (z 10 0 0) (repM z 0 j) (repM (perM z w h) 0 j) := fun j j0 j1 => repM_cE hcS rfl (LOK_DOK hL0) old0 j0 j1
  have repn : cE (z 10 0 0) z (repM (perM z w h) 0 (z 16 0 0)) := cE_tr hCc (rep0 _ hn0 (Int.le_refl _))
  have repl : cE (z 10 0 0) (perM z w h) (repM (perM z w h) 0 (z 16 0 0 + 1)) := by
    rw [repM_s _ _ hn0, (perM_new z w h).1, (perM_new z w h).2]
    exact cE_tr (cE_sy (perM_cE hw)) (actM_cE repn rfl hw)
  have hwP : wOK (perM z w h) w h := by unfold wOK; rw [c10]; exact hw
  have hL0' : LOK (perM z w h) 0 (z 16 0 0 + 1) := fun j j0 j1 => by
    rcases (show j < z 16 0 0 ∨ j = z 16 0 0 by omega) with c | c
    · exact LOK_cE hcS rfl hL0 old0 j j0 c
    · rw [c, (perM_new z w h).1, (perM_new z w h).2]
      refine ⟨hwP, fun q => ?_, fun q => ?_⟩
      · have hh := hw.2.2 (by omega)
        rw [repn 5 h 0 (by omega)]; exact hs q
      · have hh := hw.2.2 (by omega)
        rw [repn 6 h 0 (by omega)]; exact ht q
  have hD' : DDI (perM z w h) := by
    refine ⟨⟨by rw [c16]; omega, fun b b0 b1 => by rw [perM_16b z w h (by omega)]; exact hD.1.2 b b0 b1⟩, fun b b0 b1 => ?_⟩
    rcases (show b = 0 ∨ 1 ≤ b by omega) with c | c
    · rw [c, c16]; exact hL0'
    · rw [perM_16b z w h (by omega)]
      exact LOK_cE hcS rfl (hD.2 b b0 b1) (fun j _ _ => oldb b j c)
  have hC' : CUR (perM z w h) := cE_CUR (by rw [c10, c16]; exact repl)
  have kk : ∀ k : Int, 17 ≤ k → k ≠ 21 → k ≠ 22 → perM z w h k = z k := fun k k0 k1 k2 => perM_at z w h (by omega) (by omega) (by omega) (by omega) (by omega) k1 k2
  have k89 : ∀ k : Int, k = 8 ∨ k = 9 → perM z w h k = z k := fun k hk => perM_at z w h (by omega) (by omega) (by omega) (by omega) (by omega) (by omega) (by omega)
  refine ⟨hNp, fun r r0 r1 => by rw [kk 17 (by decide) (by decide) (by decide), kk 20 (by decide) (by decide) (by decide)]; exact hW r r0 r1, hD', hC', ?_⟩
  · unfold MSC dOK
    rw [kk 38 (by decide) (by decide) (by decide), kk 39 (by decide) (by decide) (by decide)]
    refine ⟨hM.1, ?_, ?_⟩
    · show perM z w h 6 6 0 = -9
      have e : addM z w h 6 6 0 = -9 := by rw [addM_k z w h (by decide) (by decide) (by decide)]; exact hM.2.1
      unfold perM
      unfold actM
      split
      · exact e
      · split
        · exact e
        · split
          · have hh := hw.2.2 (by omega)
            rw [xU_k (by decide), xU_k (by decide), xU_at, if_neg (by omega)]; exact e
          · exact e
    · have e : addM z w h 7 6 0 = 0 := by rw [addM_k z w h (by decide) (by decide) (by decide)]; exact hM.2.2
      unfold perM
      unfold actM
      split
      · exact e
      · split
        · exact e
        · split
          · have hh := hw.2.2 (by omega)
            rw [xU_k (by decide), xU_at, if_neg (by omega), xU_k (by decide)]; exact e
          · exact e
theorem INV_cp {z z' : gX} {d e n : Int} (hRel : INV z) (hd : 0 ≤ d ∧ d < 4) (he : 0 ≤ e ∧ e < 4) (hn : 0 ≤ n ∧ n ≤ z 16 e 0)
    (k1 : ∀ k : Int, k ≠ 5 → k ≠ 6 → k ≠ 7 → k ≠ 15 → k ≠ 16 → k ≠ 21 → k ≠ 22 → z' k = z k) (k16 : z' 16 d 0 = n) (k16o : ∀ b : Int, b ≠ d → z' 16 b 0 = z 16 b 0)
    (kd : ∀ j : Int, 0 ≤ j → j < n → z' 21 d j = z 21 e j ∧ z' 22 d j = z 22 e j) (ko : ∀ b : Int, b ≠ d → ∀ j : Int, z' 21 b j = z 21 b j ∧ z' 22 b j = z 22 b j)
    (m6 : z' 6 6 0 = z 6 6 0) (m7 : z' 7 6 0 = z 7 6 0) (hNOK : NOK z') (hcur : cE (z 10 0 0) z' (repM z' 0 (z' 16 0 0))) : INV z' := by
  obtain ⟨hN, hW, hD, hC, hM⟩ := hRel
  have h10 := hN.2.1
  have he40 := DDI_40 hD he.1 he.2
  have c10 : z' 10 0 0 = z 10 0 0 := by rw [k1 10 (by decide) (by decide) (by decide) (by decide) (by decide) (by decide) (by decide)]
  have hcS : cS (z 10 0 0) z z' := fun k i j q c => by rw [k1 k (by omega) (by omega) (by omega) (by omega) (by omega) (by omega) (by omega)]
  have hLe := hD.2 e he.1 he.2
  have hLn : LOK z e n := fun j a b => hLe j a (by omega)
  have repd : ∀ j : Int, 0 ≤ j → j ≤ n → cE (z 10 0 0) (repM z e j) (repM z' d j) := fun j j0 j1 => repM_cE hcS rfl (LOK_DOK hLn) kd j0 j1
  have hD' : DDI z' := by
    refine ⟨⟨?_, fun b b0 b1 => ?_⟩, fun b b0 b1 => ?_⟩
    · by_cases c : d = 0
      · rw [c] at k16; rw [k16]; omega
      · rw [k16o 0 (fun q => c q.symm)]; exact hD.1.1
    · by_cases c : b = d
      · rw [c, k16]; omega
      · rw [k16o b c]; exact hD.1.2 b b0 b1
    · by_cases c : b = d
      · rw [c, k16]; exact LOK_cE hcS rfl hLn kd
      · rw [k16o b c]; exact LOK_cE hcS rfl (hD.2 b b0 b1) (fun j _ _ => ko b c j)
  have hC' : CUR z' := cE_CUR (by rw [c10]; exact hcur)
  have kk : ∀ k : Int, 17 ≤ k → k ≠ 21 → k ≠ 22 → z' k = z k := fun k k0 k1' k2 => k1 k (by omega) (by omega) (by omega) (by omega) (by omega) k1' k2
  have k89 : ∀ k : Int, k = 8 ∨ k = 9 → z' k = z k := fun k hk => k1 k (by omega) (by omega) (by omega) (by omega) (by omega) (by omega) (by omega)
  refine ⟨hNOK, fun r r0 r1 => by rw [kk 17 (by decide) (by decide) (by decide), kk 20 (by decide) (by decide) (by decide)]; exact hW r r0 r1, hD', hC', ?_⟩
  · unfold MSC dOK
    rw [kk 38 (by decide) (by decide) (by decide), kk 39 (by decide) (by decide) (by decide), m6, m7]
    exact hM
theorem INV_undo {z : gX} {n : Int} (hRel : INV z) (hn : 0 ≤ n ∧ n ≤ z 16 0 0) : INV (repM (xU z 16 0 0 n) 0 n) := by
  have hCc := (CUR_cE hRel.2.2.2.1).2
  have h10 := hRel.1.2.1
  have h40 := hRel.2.2.1.1.1
  have hLe := hRel.2.2.1.2 0 (by decide) (by decide)
  have hLn : LOK z 0 n := fun j a b => hLe j a (by omega)
  have hLx : DOK (xU z 16 0 0 n) 0 n := (show DOK z 0 n from LOK_DOK hLn)
  have k21 : ∀ k : Int, k = 21 ∨ k = 22 → repM (xU z 16 0 0 n) 0 n k = z k := fun k hk => by rw [repM_k (by omega) (by omega) (by omega) (by omega), xU_k (by omega)]
  have hN' := (repM_NOK (x := xU z 16 0 0 n) hRel.1 (by omega) hLx hn.1 (Int.le_refl _)).1
  have e16 : repM (xU z 16 0 0 n) 0 n 16 0 0 = n := by rw [repM_k (by decide) (by decide) (by decide) (by decide), xU_same]
  have hcS : cS (z 10 0 0) (xU z 16 0 0 n) (repM (xU z 16 0 0 n) 0 n) := fun k i j q c => by rw [repM_k (by omega) (by omega) (by omega) (by omega)]
  refine INV_cp (d := 0) (e := 0) hRel (by decide) (by decide) hn (fun k h5 h6 h7 h15 h16 _ _ => by rw [repM_k h5 h6 h7 h15, xU_k h16]) e16 (fun b hb => by rw [repM_k (by decide) (by decide) (by decide) (by decide), xU_at, if_neg (by omega)]) (fun j _ _ => by rw [k21 21 (Or.inl rfl), k21 22 (Or.inr rfl)]; exact ⟨rfl, rfl⟩) (fun b _ j => by rw [k21 21 (Or.inl rfl), k21 22 (Or.inr rfl)]; exact ⟨rfl, rfl⟩) (rep6 0 (x := xU z 16 0 0 n) h10.2 hLx n.toNat (by omega)).1 (rep6 0 (x := xU z 16 0 0 n) h10.2 hLx n.toNat (by omega)).2 hN' ?_
  · rw [e16]
    exact repM_cE (a := xU z 16 0 0 n) hcS rfl hLx (fun j _ _ => by rw [k21 21 (Or.inl rfl), k21 22 (Or.inr rfl)]; exact ⟨rfl, rfl⟩) hn.1 (Int.le_refl _)
theorem INV_keep {z : gX} {k : Int} (hRel : INV z) (hk : 0 ≤ k ∧ k < 3) : INV (xU (bcM z (1 + k) 0 (z 16 0 0)) 16 (1 + k) 0 (z 16 0 0)) := by
  have hCc := (CUR_cE hRel.2.2.2.1).2
  have h10 := hRel.1.2.1
  have h40 := hRel.2.2.1.1.1
  have hLe := hRel.2.2.1.2 0 (by decide) (by decide)
  have k21 : ∀ b : Int, b ≠ 1 + k → ∀ j : Int, xU (bcM z (1 + k) 0 (z 16 0 0)) 16 (1 + k) 0 (z 16 0 0) 21 b j = z 21 b j ∧ xU (bcM z (1 + k) 0 (z 16 0 0)) 16 (1 + k) 0 (z 16 0 0) 22 b j = z 22 b j := fun b hb j => by
    rw [xU_k (by decide), xU_k (by decide)]
    unfold bcM
    rw [if_neg (by omega), if_neg (by omega), if_neg (by omega), if_neg (by omega)]
    exact ⟨rfl, rfl⟩
  have hcS : cS (z 10 0 0) z (xU (bcM z (1 + k) 0 (z 16 0 0)) 16 (1 + k) 0 (z 16 0 0)) := fun k i j q c => by rw [xU_k (by omega), bcM_k _ _ _ _ (by omega) (by omega)]
  have e16 : xU (bcM z (1 + k) 0 (z 16 0 0)) 16 (1 + k) 0 (z 16 0 0) 16 0 0 = z 16 0 0 := by rw [xU_at, if_neg (by omega), bcM_k _ _ _ _ (by decide) (by decide)]
  refine INV_cp (d := 1 + k) (e := 0) (n := z 16 0 0) hRel (by omega) (by decide) ⟨h40.1, Int.le_refl _⟩ (fun k h5 h6 h7 h15 h16 h21 h22 => by rw [xU_k h16, bcM_k _ _ _ _ h21 h22]) (xU_same _ _ _ _ _) (fun b hb => by rw [xU_at, if_neg (fun w => hb w.1), bcM_k _ _ _ _ (by decide) (by decide)]) (fun j j0 j1 => by rw [xU_k (by decide), xU_k (by decide)]; exact bcM_21 z j0 j1) k21 rfl rfl hRel.1 ?_
  · rw [e16]
    have q := repM_cE hcS rfl (LOK_DOK hLe) (fun j _ _ => k21 0 (by omega) j) h40.1 (Int.le_refl _)
    refine cE_tr ?_ (cE_tr hCc q)
    exact fun k i j q => by rw [xU_k (by omega), bcM_k _ _ _ _ (by omega) (by omega)]
theorem INV_on {z : gX} {k : Int} (hRel : INV z) (hk : 0 ≤ k ∧ k < 3) (h0 : 0 ≤ z 16 (1 + k) 0) : INV (repM (onM z k) 0 (z 16 (1 + k) 0)) := by
  have h10 := hRel.1.2.1
  have h40 := DDI_40 hRel.2.2.1 (d := 1 + k) (by omega) (by omega)
  have hLe := hRel.2.2.1.2 (1 + k) (by omega) (by omega)
  have hLx : DOK (onM z k) 0 (z 16 (1 + k) 0) := onM_DOK (LOK_DOK hLe)
  have hN' := (repM_NOK (x := onM z k) hRel.1 h40 hLx h0 (Int.le_refl _)).1
  have kk : ∀ k1 : Int, k1 ≠ 5 → k1 ≠ 6 → k1 ≠ 7 → k1 ≠ 15 → repM (onM z k) 0 (z 16 (1 + k) 0) k1 = onM z k k1 := fun k1 a b c d => repM_k a b c d
  have e16 : repM (onM z k) 0 (z 16 (1 + k) 0) 16 0 0 = z 16 (1 + k) 0 := by rw [kk 16 (by decide) (by decide) (by decide) (by decide), onM, xU_same]
  have hcS : cS (z 10 0 0) (onM z k) (repM (onM z k) 0 (z 16 (1 + k) 0)) := fun k1 i j q c => by rw [kk k1 (by omega) (by omega) (by omega) (by omega)]
  refine INV_cp (d := 0) (e := 1 + k) (n := z 16 (1 + k) 0) hRel (by decide) (by omega) ⟨h0, Int.le_refl _⟩ (fun k1 h5 h6 h7 h15 h16 h21 h22 => by rw [kk k1 h5 h6 h7 h15, onM, xU_k h16, bcM_k _ _ _ _ h21 h22]) e16 (fun b hb => by rw [kk 16 (by decide) (by decide) (by decide) (by decide), onM, xU_at, if_neg (fun w => hb w.1), bcM_k _ _ _ _ (by decide) (by decide)]) (fun j j0 j1 => by rw [kk 21 (by decide) (by decide) (by decide) (by decide), kk 22 (by decide) (by decide) (by decide) (by decide), onM, xU_k (by decide), xU_k (by decide)]; exact bcM_21 z j0 j1) (fun b hb j => ?_) (rep6 0 (x := onM z k) h10.2 hLx (z 16 (1 + k) 0).toNat (by omega)).1 (rep6 0 (x := onM z k) h10.2 hLx (z 16 (1 + k) 0).toNat (by omega)).2 hN' ?_
  · rw [kk 21 (by decide) (by decide) (by decide) (by decide), kk 22 (by decide) (by decide) (by decide) (by decide), onM, xU_k (by decide), xU_k (by decide)]
    unfold bcM
    rw [if_neg (by omega), if_neg (by omega), if_neg (by omega), if_neg (by omega)]
    exact ⟨rfl, rfl⟩
  · rw [e16]
    exact repM_cE (a := onM z k) hcS rfl hLx (fun j _ _ => by rw [kk 21 (by decide) (by decide) (by decide) (by decide), kk 22 (by decide) (by decide) (by decide) (by decide)]; exact ⟨rfl, rfl⟩) h0 (Int.le_refl _)
theorem INV_court {z : gX} {t : Int} (hRel : INV z) (ht : 0 ≤ t ∧ t < 4) (h9 : rdF (z 20 (6 + t)) (z 17 (6 + t) 0) = -9) : INV (couM z (6 + t)) := by
  have hok := rd_ok h9
  have c10 := couM_10 z (6 + t)
  have hR := hok.1
  have hN : NOK (couM z (6 + t)) := by
    have a := (repM_NO0 (n := 0) (d := 0) (j := 0) (asR_NO0 h9) (by decide) (fun j h0 h1 => by omega) (Int.le_refl _) (Int.le_refl _)).1
    exact NOK_k (x := repM (asR z (6 + t)) 0 0) (fun k hk => by funext i j; unfold couM ktM; rw [if_neg (by omega)]) a
  have hS0 : ∀ b : Int, 1 ≤ b → b < 4 → couM z (6 + t) 16 b 0 = -1 := fun b h0 h1 => couM_16b z (6 + t) h0 h1
  have hD : DDI (couM z (6 + t)) := by
    refine ⟨⟨by rw [couM_160]; decide, fun b h0 h1 => by rw [hS0 b h0 h1]; decide⟩, fun b h0 h1 j j0 j1 => ?_⟩
    rcases (show b = 0 ∨ 1 ≤ b by omega) with e | e
    · rw [e, couM_160] at j1; omega
    · rw [hS0 b e h1] at j1; omega
  have hr0 : ∀ k i : Int, (k = 5 ∨ k = 6 ∨ k = 7) → 0 ≤ i → i < rcF (z 20 (6 + t)) (z 17 (6 + t) 0) → repM (couM z (6 + t)) 0 0 k i 0 = if k = 6 then -9 else 0 := fun k i hk h0 h1 => by
    show rsM (xU (couM z (6 + t)) 15 0 0 8) (couM z (6 + t) 10 0 0) k i 0 = _
    unfold rsM
    rw [if_pos ⟨hk, h0, by rw [c10]; exact h1, rfl⟩]
  have h15 : repM (couM z (6 + t)) 0 0 15 0 0 = 8 := by
    show rsM (xU (couM z (6 + t)) 15 0 0 8) (couM z (6 + t) 10 0 0) 15 0 0 = _
    rw [rsM_k (by decide) (by decide) (by decide), xU_same]
  have e10 : repM (couM z (6 + t)) 0 0 10 0 0 = rcF (z 20 (6 + t)) (z 17 (6 + t) 0) := by rw [repM_k (by decide) (by decide) (by decide) (by decide)]; exact c10
  have hC : CUR (couM z (6 + t)) := by
    unfold CUR
    rw [couM_160, couM_15, h15]
    refine ⟨rfl, fun i h0 h1 => ?_⟩
    rw [c10] at h1
    rw [couM_567 z _ (Or.inl rfl) h0 h1, couM_567 z _ (Or.inr (Or.inl rfl)) h0 h1, couM_567 z _ (Or.inr (Or.inr rfl)) h0 h1, hr0 5 i (by decide) h0 h1, hr0 6 i (by decide) h0 h1, hr0 7 i (by decide) h0 h1]
    exact ⟨rfl, rfl, rfl⟩
  obtain ⟨_, hW, _, _, hM⟩ := hRel
  refine ⟨hN, fun r r0 r1 => ?_, hD, hC, ?_⟩
  · rw [couM_k z (6 + t) (k := 17) (by decide), couM_k z (6 + t) (k := 20) (by decide)]; exact hW r r0 r1
  · unfold MSC dOK
    rw [couM_k z (6 + t) (k := 38) (by decide), couM_k z (6 + t) (k := 39) (by decide)]
    refine ⟨hM.1, ?_, ?_⟩
    · unfold couM ktM
      rw [if_neg (by omega)]
      show rsM (xU (asR z (6 + t)) 15 0 0 8) (asR z (6 + t) 10 0 0) 6 6 0 = -9
      unfold rsM
      have : asR z (6 + t) 10 0 0 = rcF (z 20 (6 + t)) (z 17 (6 + t) 0) := rfl
      rw [if_neg (by omega), xU_k (by decide)]
      unfold asR
      rw [xU_k (by decide)]
      unfold asN asHR
      rw [if_neg (by omega), xU_k (by decide), xU_k (by decide), xU_k (by decide), xU_k (by decide), xU_k (by decide)]
      exact hM.2.1
    · unfold couM ktM
      rw [if_neg (by omega)]
      show rsM (xU (asR z (6 + t)) 15 0 0 8) (asR z (6 + t) 10 0 0) 7 6 0 = 0
      unfold rsM
      have : asR z (6 + t) 10 0 0 = rcF (z 20 (6 + t)) (z 17 (6 + t) 0) := rfl
      rw [if_neg (by omega), xU_k (by decide)]
      unfold asR
      rw [xU_k (by decide)]
      unfold asN asHR
      rw [if_neg (by omega), xU_k (by decide), xU_k (by decide), xU_k (by decide), xU_k (by decide), xU_k (by decide)]
      exact hM.2.2
