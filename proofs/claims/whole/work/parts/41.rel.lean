/-! what a court is told by: the places that count -/
abbrev gq (k i : Int) : Prop := ((1 ≤ k ∧ k ≤ 7) ∨ (10 ≤ k ∧ k ≤ 16) ∨ k = 21 ∨ k = 22) ∧ ¬ (i = 6 ∧ 1 ≤ k ∧ k ≤ 5)
def qE (a b : gX) : Prop := ∀ k i j : Int, gq k i → b k i j = a k i j
theorem vU_g {a b : gX} (e : qE a b) {i : Int} (hi : i ≠ 6) (h : Int) : vU b i h = vU a i h := by
  show (fun (p m he k g bb hd s : Int) => if sComes k g bb h then (if 0 < sBurn p m k bb hd h - he - 2 * s then (0 : Int) else 1) else 2) (b 11 0 0) (b 12 0 0) (b 13 0 0) (b 1 i 0) (b 2 i 0) (b 3 i 0) (b 4 i 0) (b 5 i 0) = (fun (p m he k g bb hd s : Int) => if sComes k g bb h then (if 0 < sBurn p m k bb hd h - he - 2 * s then (0 : Int) else 1) else 2) (a 11 0 0) (a 12 0 0) (a 13 0 0) (a 1 i 0) (a 2 i 0) (a 3 i 0) (a 4 i 0) (a 5 i 0)
  rw [e 1 i 0 (by omega), e 2 i 0 (by omega), e 3 i 0 (by omega), e 4 i 0 (by omega), e 5 i 0 (by omega), e 11 0 0 (by omega), e 12 0 0 (by omega), e 13 0 0 (by omega)]
theorem tcU_g {a b : gX} (e : qE a b) (h6 : a 10 0 0 ≤ 6) : tcU b = tcU a := by
  show sumZ (fun i => if b 6 i 0 = 1 then 1 else 0) (b 10 0 0) = _
  rw [e 10 0 0 (by omega)]
  exact sumZ_cong (fun i _ h => by rw [e 6 i 0 (by omega)])
theorem twU_g {a b : gX} (e : qE a b) (h6 : a 10 0 0 ≤ 6) : twU b = twU a := by
  show sumZ (fun i => if b 7 i 0 = 1 then 1 else 0) (b 10 0 0) = _
  rw [e 10 0 0 (by omega)]
  exact sumZ_cong (fun i _ h => by rw [e 7 i 0 (by omega)])
theorem trU_g {a b : gX} (e : qE a b) (h6 : a 10 0 0 ≤ 6) : trU b = trU a := by
  show sumZ (fun i => if b 6 i 0 ≠ -9 then p2 i else 0) (b 10 0 0) = _
  rw [e 10 0 0 (by omega)]
  exact sumZ_cong (fun i _ h => by rw [e 6 i 0 (by omega)])
theorem sn_g {a b : gX} (e : qE a b) (h6 : a 10 0 0 ≤ 6) (k : Int) : sn b k = sn a k := by
  unfold sn
  rw [e 15 0 0 (by omega), trU_g e h6, tcU_g e h6, twU_g e h6, e 10 0 0 (by omega)]
  refine ite_congr rfl (fun _ => rfl) (fun _ => ite_congr rfl (fun _ => rfl) (fun _ => ite_congr rfl (fun _ => rfl) (fun _ => ite_congr rfl (fun _ => rfl) (fun _ => ite_congr rfl (fun _ => ite_congr rfl (fun q => e 5 _ 0 (by omega)) (fun _ => rfl)) (fun _ => ite_congr rfl (fun q => e 6 _ 0 (by omega)) (fun _ => rfl))))))
theorem qE_xU {a b : gX} (e : qE a b) {k i j v w : Int} (h : gq k i → w = v) : qE (xU a k i j v) (xU b k i j w) := fun k1 i1 j1 q => by
  unfold xU
  by_cases c : k1 = k ∧ i1 = i ∧ j1 = j
  · rw [if_pos c, if_pos c, h (by rw [← c.1, ← c.2.1]; exact q)]
  · rw [if_neg c, if_neg c]; exact e k1 i1 j1 q
theorem actM_g {a b : gX} (e : qE a b) (h6 : a 10 0 0 ≤ 6) {w h : Int} (hw : wOK a w h) : qE (actM a w h) (actM b w h) := by
  rcases (show w = 0 ∨ w = 1 ∨ w = 2 ∨ (w ≠ 0 ∧ w ≠ 1 ∧ w ≠ 2) by omega) with q | q | q | q
  · rw [actM_w0 q, actM_w0 q]
    exact qE_xU e (fun _ => by rw [e 15 0 0 (by omega)])
  · rw [actM_w1 q, actM_w1 q]
    exact qE_xU e (fun c => by rw [e 5 h 0 c])
  · have hh := hw.2.2 (by omega)
    have ev : vU b h (b 15 0 0) = vU a h (a 15 0 0) := by rw [e 15 0 0 (by omega)]; exact vU_g e (by omega) _
    have e1 : qE (xU a 6 h 0 (vU a h (a 15 0 0))) (xU b 6 h 0 (vU b h (b 15 0 0))) := qE_xU e (fun _ => ev)
    rw [actM_w2 q, actM_w2 q]
    refine qE_xU (qE_xU e1 (fun _ => by rw [ev, e 2 h 0 (by omega)])) (fun _ => ?_)
    rw [tcU_g e1 h6, ev, e 14 0 0 (by omega), e 15 0 0 (by omega)]
  · rw [actM_w3 q, actM_w3 q]; exact e
theorem qE_rs {a b : gX} (e : qE a b) (m : Int) : qE (rsM (xU a 15 0 0 8) m) (rsM (xU b 15 0 0 8) m) := fun k i j q => by
  unfold rsM
  refine ite_congr rfl (fun _ => rfl) (fun _ => ?_)
  exact qE_xU e (fun _ => rfl) k i j q
theorem repN_g {a b : gX} (e : qE a b) (h6 : a 10 0 0 ≤ 6) {d n : Int} (hD : DOK a d n) : ∀ j : Nat, (j : Int) ≤ n → qE (repN a d j) (repN b d j)
  | 0, _ => by
    show qE (rsM (xU a 15 0 0 8) (a 10 0 0)) (rsM (xU b 15 0 0 8) (b 10 0 0))
    rw [e 10 0 0 (by omega)]
    exact qE_rs e _
  | j + 1, h => by
    have ih := repN_g e h6 hD j (by omega)
    have e10 : repN a d j 10 = a 10 := repN_k (by decide) (by decide) (by decide) (by decide) j
    show qE (actM (repN a d j) (a 21 d (j : Int)) (a 22 d (j : Int))) (actM (repN b d j) (b 21 d (j : Int)) (b 22 d (j : Int)))
    rw [e 21 d j (by omega), e 22 d j (by omega)]
    refine actM_g ih (by rw [e10]; exact h6) ?_
    unfold wOK
    rw [e10]
    exact hD (j : Int) (by omega) (by omega)
theorem repM_g {a b : gX} (e : qE a b) (h6 : a 10 0 0 ≤ 6) {d n j : Int} (hD : DOK a d n) (h0 : 0 ≤ j) (h1 : j ≤ n) : qE (repM a d j) (repM b d j) := repN_g e h6 hD j.toNat (by omega)
theorem NOK_g {a b : gX} (e : qE a b) (h : NOK a) : NOK b := by
  unfold NOK IOK
  rw [e 10 0 0 (by omega), e 11 0 0 (by omega), e 12 0 0 (by omega), e 13 0 0 (by omega), e 14 0 0 (by omega), e 15 0 0 (by omega)]
  refine ⟨h.1, h.2.1, h.2.2.1, fun i h0 h1 => ?_⟩
  have := h.2.1
  unfold MOK
  rw [e 1 i 0 (by omega), e 2 i 0 (by omega), e 3 i 0 (by omega), e 4 i 0 (by omega), e 5 i 0 (by omega), e 6 i 0 (by omega), e 7 i 0 (by omega)]
  exact h.2.2.2 i h0 h1
theorem LOK_g {a b : gX} (e : qE a b) (h6 : a 10 0 0 ≤ 6) {d n : Int} (h : LOK a d n) : LOK b d n := fun j h0 h1 => by
  obtain ⟨q1, q2, q3⟩ := h j h0 h1
  have er := repM_g e h6 (LOK_DOK h) h0 (by omega : j ≤ n)
  rw [e 21 d j (by omega), e 22 d j (by omega)]
  refine ⟨?_, fun w => ?_, fun w => ?_⟩
  · unfold wOK; rw [e 10 0 0 (by omega)]; exact q1
  · have hh := q1.2.2 (by omega)
    rw [er 5 (a 22 d j) 0 (by omega)]; exact q2 w
  · have hh := q1.2.2 (by omega)
    rw [er 6 (a 22 d j) 0 (by omega)]; exact q3 w
theorem DDI_g {a b : gX} (e : qE a b) (h6 : a 10 0 0 ≤ 6) (h : DDI a) : DDI b := by
  obtain ⟨⟨h1, h2⟩, h3⟩ := h
  refine ⟨⟨by rw [e 16 0 0 (by omega)]; exact h1, fun q q0 q1 => by rw [e 16 q 0 (by omega)]; exact h2 q q0 q1⟩, fun q q0 q1 => ?_⟩
  rw [e 16 q 0 (by omega)]
  exact LOK_g e h6 (h3 q q0 q1)
theorem CUR_g {a b : gX} (e : qE a b) (h6 : a 10 0 0 ≤ 6) (hD : DDI a) (h : CUR a) : CUR b := by
  have er := repM_g e h6 (LOK_DOK (hD.2 0 (by decide) (by decide))) hD.1.1.1 (Int.le_refl _)
  unfold CUR
  rw [e 16 0 0 (by omega), e 15 0 0 (by omega), e 10 0 0 (by omega), er 15 0 0 (by omega)]
  refine ⟨h.1, fun i h0 h1 => ?_⟩
  rw [e 5 i 0 (by omega), e 6 i 0 (by omega), e 7 i 0 (by omega), er 5 i 0 (by omega), er 6 i 0 (by omega), er 7 i 0 (by omega)]
  exact h.2 i h0 h1
/-! the class's state and the reference's -/
def BL (x : gX) (y : gY) (b : Int) : Prop := y 40 (657 * b) = x 16 b 0 ∧ (0 ≤ x 16 b 0 → SB (repM x b (x 16 b 0)) y (657 * b) ∧ ∀ j k : Int, 0 ≤ j → j < x 16 b 0 → 0 ≤ k → k < 16 → y 40 (657 * b + 17 + 16 * j + k) = sn (repM x b j) k)
def BLK (x : gX) (y : gY) : Prop := ∀ b : Int, 0 ≤ b → b < 4 → BL x y b
def RWR (x : gX) (y : gY) : Prop := (∀ r : Int, 0 ≤ r → r < 6 → y 45 r = x 17 r 0 ∧ ∀ j : Int, 0 ≤ j → j < x 17 r 0 → y 46 (40 * r + j) = x 20 r j) ∧ ∀ t : Int, 0 ≤ t → t < 4 → y 47 t = x 17 (6 + t) 0 ∧ ∀ j : Int, 0 ≤ j → j < x 17 (6 + t) 0 → y 48 (60 * t + j) = x 20 (6 + t) j
def TLR (x : gX) (y : gY) : Prop := y 6 0 = x 19 0 0 ∧ y 7 0 = x 8 0 0 ∧ y 8 0 = x 9 0 0 ∧ y 9 0 = x 18 0 0 ∧ ∀ f : Int, 0 ≤ f → f < 6 → y 49 f = x 26 0 f
def Rel (x : gX) (y : gY) : Prop := INV x ∧ ST x y ∧ BLK x y ∧ RWR x y ∧ TLR x y
def yg (y y' : gY) : Prop := (∀ k : Int, 1 ≤ k → k ≤ 5 → y' k 0 = y k 0) ∧ (∀ k j : Int, 41 ≤ k → k ≤ 44 → y' k j = y k j) ∧ ∀ j : Int, j < 2628 → y' 40 j = y 40 j
theorem ST_g {a b : gX} {y y' : gY} (e : qE a b) (ey : yg y y') (h6 : a 10 0 0 ≤ 6) (h : ST a y) : ST b y' := by
  obtain ⟨h1, h2, h3, h4, h5, h7⟩ := h
  unfold ST
  rw [e 10 0 0 (by omega), e 11 0 0 (by omega), e 12 0 0 (by omega), e 13 0 0 (by omega), e 14 0 0 (by omega), ey.1 1 (by decide) (by decide), ey.1 2 (by decide) (by decide), ey.1 3 (by decide) (by decide), ey.1 4 (by decide) (by decide), ey.1 5 (by decide) (by decide)]
  refine ⟨h1, h2, h3, h4, h5, fun i h0 hn => ?_⟩
  rw [e 1 i 0 (by omega), e 2 i 0 (by omega), e 3 i 0 (by omega), e 4 i 0 (by omega), ey.2.1 41 i (by decide) (by decide), ey.2.1 42 i (by decide) (by decide), ey.2.1 43 i (by decide) (by decide), ey.2.1 44 i (by decide) (by decide)]
  exact h7 i h0 hn
theorem BL_g {a b : gX} {y y' : gY} (e : qE a b) (ey : ∀ j : Int, j < 2628 → y' 40 j = y 40 j) (h6 : a 10 0 0 ≤ 6) {d : Int} (hd : d < 4) (h40 : a 16 d 0 ≤ 40) (hD : LOK a d (a 16 d 0)) (h : BL a y d) : BL b y' d := by
  unfold BL
  rw [e 16 d 0 (by omega), ey _ (by omega)]
  refine ⟨h.1, fun h0 => ?_⟩
  obtain ⟨h2, h3⟩ := h.2 h0
  refine ⟨fun k k0 k1 => ?_, fun j k j0 j1 k0 k1 => ?_⟩
  · rw [ey _ (by omega), sn_g (repM_g e h6 (LOK_DOK hD) h0 (Int.le_refl _)) (by rw [repM_k (by decide) (by decide) (by decide) (by decide)]; exact h6)]
    exact h2 k k0 k1
  · rw [ey _ (by omega), sn_g (repM_g e h6 (LOK_DOK hD) j0 (by omega)) (by rw [repM_k (by decide) (by decide) (by decide) (by decide)]; exact h6)]
    exact h3 j k j0 j1 k0 k1
theorem DDI_40 {a : gX} (h : DDI a) {d : Int} (h0 : 0 ≤ d) (h1 : d < 4) : a 16 d 0 ≤ 40 := by
  rcases (show d = 0 ∨ 1 ≤ d by omega) with q | q
  · rw [q]; exact h.1.1.2
  · exact (h.1.2 d q h1).2
theorem Rel_g {a b : gX} {y y' : gY} (h : Rel a y) (e : qE a b) (hM : MSC b) (hW : RWI b) (ey : yg y y') (hr : RWR b y') (ht : TLR b y') : Rel b y' := by
  obtain ⟨⟨hN, _, hD, hC, _⟩, hS, hB, _, _⟩ := h
  have h6 := hN.2.1.2
  exact ⟨⟨NOK_g e hN, hW, DDI_g e h6 hD, CUR_g e h6 hD hC, hM⟩, ST_g e ey h6 hS, fun d d0 d1 => BL_g e ey.2.2 h6 d1 (DDI_40 hD d0 d1) (hD.2 d d0 d1) (hB d d0 d1), hr, ht⟩
/-- the memory behind a call counts as the state that is told -/
theorem Rel_xG {a u : gX} {y : gY} (h : Rel a y) (e : xG a u) : Rel u y := by
  have q : ∀ k i j : Int, ¬ scr k i → u k i j = a k i j := e.1
  refine Rel_g h (fun k i j c => q k i j (by unfold gq at c; unfold scr; omega)) ?_ ?_ ⟨fun _ _ _ => rfl, fun _ _ _ _ => rfl, fun _ _ => rfl⟩ ?_ ?_
  · obtain ⟨⟨_, _, _, _, hM⟩, _⟩ := h
    refine ⟨e.2 hM.1, ?_, ?_⟩
    · rw [q 6 6 0 (by unfold scr; omega)]; exact hM.2.1
    · rw [q 7 6 0 (by unfold scr; omega)]; exact hM.2.2
  · have hW := h.1.2.1
    intro r r0 r1
    rw [q 17 r 0 (by unfold scr; omega)]
    obtain ⟨a1, a2, a3⟩ := hW r r0 r1
    exact ⟨a1, fun j => by rw [q 20 r j (by unfold scr; omega)]; exact a2 j, fun h6 j => by rw [q 20 r j (by unfold scr; omega)]; exact a3 h6 j⟩
  · obtain ⟨_, _, _, ⟨r1, r2⟩, _⟩ := h
    refine ⟨fun r h0 h1 => ?_, fun t h0 h1 => ?_⟩
    · rw [q 17 r 0 (by unfold scr; omega)]
      exact ⟨(r1 r h0 h1).1, fun j j0 j1 => by rw [q 20 r j (by unfold scr; omega)]; exact (r1 r h0 h1).2 j j0 j1⟩
    · rw [q 17 (6 + t) 0 (by unfold scr; omega)]
      exact ⟨(r2 t h0 h1).1, fun j j0 j1 => by rw [q 20 (6 + t) j (by unfold scr; omega)]; exact (r2 t h0 h1).2 j j0 j1⟩
  · obtain ⟨_, _, _, _, t⟩ := h
    unfold TLR
    rw [q 19 0 0 (by unfold scr; omega), q 8 0 0 (by unfold scr; omega), q 9 0 0 (by unfold scr; omega), q 18 0 0 (by unfold scr; omega)]
    exact ⟨t.1, t.2.1, t.2.2.1, t.2.2.2.1, fun f h0 h1 => by rw [q 26 0 f (by unfold scr; omega)]; exact t.2.2.2.2 f h0 h1⟩
/-! what does not touch the court -/
def kE (a b : gX) : Prop := ∀ k : Int, k ≠ 8 → k ≠ 9 → k ≠ 17 → k ≠ 18 → k ≠ 19 → k ≠ 20 → k ≠ 26 → b k = a k
theorem kE_g {a b : gX} (e : kE a b) : qE a b := fun k i j c => by rw [e k (by unfold gq at c; omega) (by unfold gq at c; omega) (by unfold gq at c; omega) (by unfold gq at c; omega) (by unfold gq at c; omega) (by unfold gq at c; omega) (by unfold gq at c; omega)]
theorem kE_M {a b : gX} (e : kE a b) (h : MSC a) : MSC b := by
  unfold MSC dOK
  rw [e 38 (by decide) (by decide) (by decide) (by decide) (by decide) (by decide) (by decide), e 39 (by decide) (by decide) (by decide) (by decide) (by decide) (by decide) (by decide), e 6 (by decide) (by decide) (by decide) (by decide) (by decide) (by decide) (by decide), e 7 (by decide) (by decide) (by decide) (by decide) (by decide) (by decide) (by decide)]
  exact h
def yk (y y' : gY) : Prop := ∀ k : Int, k ≤ 5 ∨ (40 ≤ k ∧ k ≤ 44) → y' k = y k
theorem yk_g {y y' : gY} (e : yk y y') : yg y y' := ⟨fun k h0 h1 => by rw [e k (by omega)], fun k j h0 h1 => by rw [e k (by omega)], fun j _ => by rw [e 40 (by omega)]⟩
theorem Rel_k {a b : gX} {y y' : gY} (h : Rel a y) (e : kE a b) (ey : yk y y') (hW : RWI b) (hr : RWR b y') (ht : TLR b y') : Rel b y' := Rel_g h (kE_g e) (kE_M e h.1.2.2.2.2) hW (yk_g ey) hr ht
theorem yU_kk {y : gY} {k j v k1 : Int} (h : k1 ≠ k) : yU y k j v k1 = y k1 := yU_k h
theorem Rel_tell {a : gX} {y : gY} (h : Rel a y) (v : Int) : Rel (xU a 19 0 0 v) (yU y 6 0 v) := by
  refine Rel_k h (fun k _ _ _ _ h4 _ _ => xU_k h4) (fun k c => yU_k (by omega)) h.1.2.1 h.2.2.2.1 ?_
  obtain ⟨_, _, _, _, t⟩ := h
  exact ⟨(yU_same _ _ _ _).trans (xU_same _ _ _ _ _).symm, t.2.1, t.2.2.1, t.2.2.2.1, t.2.2.2.2⟩
theorem Rel_find {a : gX} {y : gY} (h : Rel a y) {f : Int} (hf : 0 ≤ f ∧ f ≤ 5) : Rel (fnd a f) (yF y f) := by
  refine Rel_k h (fun k _ _ _ h3 _ _ h6 => by unfold fnd; rw [xU_k h6, xU_k h3]) (fun k c => by unfold yF; rw [yU_k (by omega), yU_k (by omega)]) h.1.2.1 h.2.2.2.1 ?_
  obtain ⟨_, _, _, _, t⟩ := h
  refine ⟨t.1, t.2.1, t.2.2.1, ?_, fun q q0 q1 => ?_⟩
  · show yU y 9 0 f 9 0 = xU a 18 0 0 f 18 0 0
    rw [yU_same, xU_same]
  · show yU (yU y 9 0 f) 49 f (y 49 f + 1) 49 q = xU (xU a 18 0 0 f) 26 0 f (a 26 0 f + 1) 26 0 q
    rw [yU_at, xU_at]
    by_cases c : q = f
    · rw [if_pos c, if_pos ⟨rfl, c⟩, t.2.2.2.2 f hf.1 (by omega)]
    · rw [if_neg c, if_neg (fun w => c w.2)]
      exact t.2.2.2.2 q q0 q1
/-- only what a call uses within has changed -/
def ys (y y' : gY) : Prop := ∀ k j : Int, k ≤ 9 ∨ (k = 40 ∧ j < 2628) ∨ (41 ≤ k ∧ k ≤ 49) → y' k j = y k j
theorem ys_rf (y : gY) : ys y y := fun _ _ _ => rfl
theorem ys_tr {y y' y'' : gY} (a : ys y y') (b : ys y' y'') : ys y y'' := fun k j h => (b k j h).trans (a k j h)
theorem Rel_ys {a : gX} {y y' : gY} (h : Rel a y) (e : ys y y') : Rel a y' := by
  refine Rel_g h (fun _ _ _ _ => rfl) h.1.2.2.2.2 h.1.2.1 ⟨fun k h0 h1 => e k 0 (by omega), fun k j h0 h1 => e k j (by omega), fun j hj => e 40 j (by omega)⟩ ?_ ?_
  · obtain ⟨_, _, _, ⟨r1, r2⟩, _⟩ := h
    refine ⟨fun r h0 h1 => ?_, fun t h0 h1 => ?_⟩
    · rw [e 45 r (by omega)]
      exact ⟨(r1 r h0 h1).1, fun j j0 j1 => by rw [e 46 _ (by omega)]; exact (r1 r h0 h1).2 j j0 j1⟩
    · rw [e 47 t (by omega)]
      exact ⟨(r2 t h0 h1).1, fun j j0 j1 => by rw [e 48 _ (by omega)]; exact (r2 t h0 h1).2 j j0 j1⟩
  · obtain ⟨_, _, _, _, t⟩ := h
    unfold TLR
    rw [e 6 0 (by omega), e 7 0 (by omega), e 8 0 (by omega), e 9 0 (by omega)]
    exact ⟨t.1, t.2.1, t.2.2.1, t.2.2.2.1, fun f h0 h1 => by rw [e 49 f (by omega)]; exact t.2.2.2.2 f h0 h1⟩
/-- the court of now -/
theorem Rel_SB {a : gX} {y : gY} (h : Rel a y) : SB a y 0 := by
  obtain ⟨⟨hN, _, hD, hC, _⟩, _, hB, _, _⟩ := h
  have b0 := (hB 0 (by decide) (by decide)).2 hD.1.1.1
  intro k k0 k1
  have := b0.1 k k0 k1
  rw [show (657 : Int) * 0 + 1 + k = 0 + 1 + k by omega] at this
  rw [this]
  have h6 := hN.2.1.2
  have e10 : repM a 0 (a 16 0 0) 10 = a 10 := repM_k (by decide) (by decide) (by decide) (by decide)
  have c5 : ∀ i : Int, 0 ≤ i → i < a 10 0 0 → repM a 0 (a 16 0 0) 5 i 0 = a 5 i 0 := fun i h0 h1 => (hC.2 i h0 h1).1.symm
  have c6 : ∀ i : Int, 0 ≤ i → i < a 10 0 0 → repM a 0 (a 16 0 0) 6 i 0 = a 6 i 0 := fun i h0 h1 => (hC.2 i h0 h1).2.1.symm
  have c7 : ∀ i : Int, 0 ≤ i → i < a 10 0 0 → repM a 0 (a 16 0 0) 7 i 0 = a 7 i 0 := fun i h0 h1 => (hC.2 i h0 h1).2.2.symm
  unfold sn trU tcU twU
  rw [e10, ← hC.1, show sumZ (fun i => if repM a 0 (a 16 0 0) 6 i 0 ≠ -9 then p2 i else 0) (a 10 0 0) = sumZ (fun i => if a 6 i 0 ≠ -9 then p2 i else 0) (a 10 0 0) from sumZ_cong (fun i h0 h1 => by rw [c6 i h0 h1]), show sumZ (fun i => if repM a 0 (a 16 0 0) 6 i 0 = 1 then 1 else 0) (a 10 0 0) = sumZ (fun i => if a 6 i 0 = 1 then 1 else 0) (a 10 0 0) from sumZ_cong (fun i h0 h1 => by rw [c6 i h0 h1]), show sumZ (fun i => if repM a 0 (a 16 0 0) 7 i 0 = 1 then 1 else 0) (a 10 0 0) = sumZ (fun i => if a 7 i 0 = 1 then 1 else 0) (a 10 0 0) from sumZ_cong (fun i h0 h1 => by rw [c7 i h0 h1])]
  refine ite_congr rfl (fun _ => rfl) (fun a1 => ite_congr rfl (fun _ => rfl) (fun a2 => ite_congr rfl (fun _ => rfl) (fun a3 => ite_congr rfl (fun _ => rfl) (fun a4 => ite_congr rfl (fun a5 => ite_congr rfl (fun q => c5 _ (by omega) q) (fun _ => rfl)) (fun a5 => ite_congr rfl (fun q => c6 _ (by omega) q) (fun _ => rfl))))))
