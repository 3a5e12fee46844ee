/-! a court as it was: EXT (perhaps more deeds behind its own), AT (as it was), KP (as it was, rows and texts as r has them) -/
def EXT (z u : gX) : Prop := INV u ∧ cS (z 10 0 0) z u ∧ z 16 0 0 ≤ u 16 0 0 ∧ (∀ j : Int, 0 ≤ j → j < z 16 0 0 → u 21 0 j = z 21 0 j ∧ u 22 0 j = z 22 0 j) ∧ (∀ b : Int, b ≠ 0 → u 16 b 0 = z 16 b 0 ∧ ∀ j : Int, u 21 b j = z 21 b j ∧ u 22 b j = z 22 b j) ∧ (∀ t : Int, 6 ≤ t → u 17 t = z 17 t ∧ u 20 t = z 20 t)
def AT (z u : gX) : Prop := EXT z u ∧ cE (z 10 0 0) z u ∧ u 16 0 0 = z 16 0 0
def KP (z r u : gX) : Prop := AT z u ∧ u 17 = r 17 ∧ u 20 = r 20
theorem EXT_10 {z u : gX} (h : EXT z u) : u 10 0 0 = z 10 0 0 := h.2.1 10 0 0 (by omega) (by omega)
theorem EXT_I {z u : gX} (h : EXT z u) : INV u := h.1
theorem EXT_rf {z : gX} (h : INV z) : EXT z z := ⟨h, fun _ _ _ _ _ => rfl, Int.le_refl _, fun _ _ _ => ⟨rfl, rfl⟩, fun _ _ => ⟨rfl, fun _ => ⟨rfl, rfl⟩⟩, fun _ _ => ⟨rfl, rfl⟩⟩
theorem EXT_tr {z u v : gX} (h : EXT z u) (g : EXT u v) : EXT z v := by
  have e10 := EXT_10 h
  obtain ⟨_, h2, h3, h4, h5, h6⟩ := h
  obtain ⟨g1, g2, g3, g4, g5, g6⟩ := g
  rw [e10] at g2
  refine ⟨g1, fun k i j q c => (g2 k i j q c).trans (h2 k i j q c), Int.le_trans h3 g3, fun j j0 j1 => ?_, fun b hb => ?_, fun t ht => ?_⟩
  · exact ⟨(g4 j j0 (by omega)).1.trans (h4 j j0 j1).1, (g4 j j0 (by omega)).2.trans (h4 j j0 j1).2⟩
  · exact ⟨(g5 b hb).1.trans (h5 b hb).1, fun j => ⟨((g5 b hb).2 j).1.trans ((h5 b hb).2 j).1, ((g5 b hb).2 j).2.trans ((h5 b hb).2 j).2⟩⟩
  · exact ⟨(g6 t ht).1.trans (h6 t ht).1, (g6 t ht).2.trans (h6 t ht).2⟩
theorem AT_rf {z : gX} (h : INV z) : AT z z := ⟨EXT_rf h, cE_rf _ _, rfl⟩
theorem AT_tr {z u v : gX} (h : AT z u) (g : AT u v) : AT z v := by
  have e10 := EXT_10 h.1
  refine ⟨EXT_tr h.1 g.1, ?_, g.2.2.trans h.2.2⟩
  have := g.2.1
  rw [e10] at this
  exact cE_tr h.2.1 this
theorem AT_sy {z u : gX} (h : AT z u) (hz : INV z) : AT u z := by
  have e10 := EXT_10 h.1
  obtain ⟨⟨h1, h2, h3, h4, h5, h6⟩, h7, h8⟩ := h
  refine ⟨⟨hz, fun k i j q c => ?_, by omega, fun j j0 j1 => ?_, fun b hb => ⟨(h5 b hb).1.symm, fun j => ⟨((h5 b hb).2 j).1.symm, ((h5 b hb).2 j).2.symm⟩⟩, fun t ht => ⟨(h6 t ht).1.symm, (h6 t ht).2.symm⟩⟩, ?_, h8.symm⟩
  · rw [e10] at q; exact (h2 k i j q c).symm
  · exact ⟨(h4 j j0 (by omega)).1.symm, (h4 j j0 (by omega)).2.symm⟩
  · rw [e10]; exact cE_sy h7
theorem AT_k {z u v : gX} (h : AT z u) (e : kE u v) (hW : RWI v) (ht : ∀ t : Int, 6 ≤ t → v 17 t = u 17 t ∧ v 20 t = u 20 t) : AT z v := by
  refine AT_tr h ?_
  have hu := h.1.1
  have ek : ∀ k : Int, k ≠ 8 ∧ k ≠ 9 ∧ k ≠ 17 ∧ k ≠ 18 ∧ k ≠ 19 ∧ k ≠ 20 ∧ k ≠ 26 → v k = u k := fun k c => e k c.1 c.2.1 c.2.2.1 c.2.2.2.1 c.2.2.2.2.1 c.2.2.2.2.2.1 c.2.2.2.2.2.2
  have e16 := ek 16 (by decide)
  have e21 := ek 21 (by decide)
  have e22 := ek 22 (by decide)
  refine ⟨⟨INV_k hu e hW, fun k i j q c => by rw [ek k (by omega)], by rw [e16]; exact Int.le_refl _, fun j _ _ => by rw [e21, e22]; exact ⟨rfl, rfl⟩, fun b _ => ⟨by rw [e16], fun j => by rw [e21, e22]; exact ⟨rfl, rfl⟩⟩, ht⟩, fun k i j q => by rw [ek k (by omega)], by rw [e16]⟩
theorem AT_xG {z u v : gX} (h : AT z u) (e : xG u v) : AT z v := by
  refine AT_tr h ?_
  have hu := h.1.1
  have h6 := hu.1.2.1
  have q : ∀ k i j : Int, ¬ scr k i → v k i j = u k i j := e.1
  refine ⟨⟨INV_xG hu e, fun k i j c c2 => q k i j (by unfold scr; omega), by rw [q 16 0 0 (by unfold scr; omega)]; exact Int.le_refl _, fun j _ _ => ⟨q 21 0 j (by unfold scr; omega), q 22 0 j (by unfold scr; omega)⟩, fun b _ => ⟨q 16 b 0 (by unfold scr; omega), fun j => ⟨q 21 b j (by unfold scr; omega), q 22 b j (by unfold scr; omega)⟩⟩, fun t _ => ⟨funext fun j => q 17 t j (by unfold scr; omega), funext fun j => q 20 t j (by unfold scr; omega)⟩⟩, fun k i j c => q k i j (by unfold scr; omega), q 16 0 0 (by unfold scr; omega)⟩
theorem KP_rf {z : gX} (h : INV z) : KP z z z := ⟨AT_rf h, rfl, rfl⟩
theorem KP_re {z r u : gX} (h : KP z r u) : KP z u u := ⟨h.1, rfl, rfl⟩
theorem KP_at {z u : gX} (h : AT z u) : KP z u u := ⟨h, rfl, rfl⟩
theorem KP_I {z r u : gX} (h : KP z r u) : INV u := h.1.1.1
theorem KP_10 {z r u : gX} (h : KP z r u) : u 10 0 0 = z 10 0 0 := EXT_10 h.1.1
theorem KP_tell {z r u : gX} (h : KP z r u) (v : Int) : KP z r (xU u 19 0 0 v) := ⟨AT_k h.1 (fun k _ _ _ _ h4 _ _ => xU_k h4) (KP_I h).2.1 (fun _ _ => ⟨rfl, rfl⟩), h.2.1, h.2.2⟩
theorem KP_fnd {z r u : gX} (h : KP z r u) (f : Int) : KP z r (fnd u f) := ⟨AT_k h.1 (fun k _ _ _ h3 _ _ h6 => by unfold fnd; rw [xU_k h6, xU_k h3]) (KP_I h).2.1 (fun _ _ => ⟨rfl, rfl⟩), h.2.1, h.2.2⟩
theorem KP_tf {z r u : gX} (h : KP z r u) (a b : Int) : KP z r (tfM u a b) := ⟨AT_k h.1 (fun k h8 h9 _ _ _ _ _ => by unfold tfM; rw [xU_k h9, xU_k h8]) (KP_I h).2.1 (fun _ _ => ⟨rfl, rfl⟩), h.2.1, h.2.2⟩
theorem KP_xG {z r u v : gX} (h : KP z r u) (e : xG u v) : KP z r v := by
  have q : ∀ k i j : Int, ¬ scr k i → v k i j = u k i j := e.1
  exact ⟨AT_xG h.1 e, (funext fun i => funext fun j => q 17 i j (by unfold scr; omega)).trans h.2.1, (funext fun i => funext fun j => q 20 i j (by unfold scr; omega)).trans h.2.2⟩
/-- what is undone is as it was -/
theorem EXT_undo {z u : gX} (hz : INV z) (h : EXT z u) : AT z (repM (xU u 16 0 0 (z 16 0 0)) 0 (z 16 0 0)) := by
  obtain ⟨h1, h2, h3, h4, h5, h6⟩ := h
  have hzN := hz.2.2.1.1.1
  have k4 : ∀ k : Int, k ≠ 5 → k ≠ 6 → k ≠ 7 → k ≠ 15 → repM (xU u 16 0 0 (z 16 0 0)) 0 (z 16 0 0) k = xU u 16 0 0 (z 16 0 0) k := fun k a b c d => repM_k a b c d
  have kz : ∀ k : Int, k ≠ 5 → k ≠ 6 → k ≠ 7 → k ≠ 15 → k ≠ 16 → repM (xU u 16 0 0 (z 16 0 0)) 0 (z 16 0 0) k = u k := fun k a b c d e => by rw [k4 k a b c d, xU_k e]
  have e16 : repM (xU u 16 0 0 (z 16 0 0)) 0 (z 16 0 0) 16 0 0 = z 16 0 0 := by rw [k4 16 (by decide) (by decide) (by decide) (by decide), xU_same]
  refine ⟨⟨INV_undo h1 ⟨hzN.1, h3⟩, fun k i j q c => ?_, by rw [e16]; exact Int.le_refl _, fun j j0 j1 => ?_, fun b hb => ⟨?_, fun j => ?_⟩, fun t ht => ?_⟩, ?_, e16⟩
  · rw [kz k (by omega) (by omega) (by omega) (by omega) (by omega)]; exact h2 k i j q c
  · rw [kz 21 (by decide) (by decide) (by decide) (by decide) (by decide), kz 22 (by decide) (by decide) (by decide) (by decide) (by decide)]; exact h4 j j0 j1
  · rw [k4 16 (by decide) (by decide) (by decide) (by decide), xU_at, if_neg (by omega)]; exact (h5 b hb).1
  · rw [kz 21 (by decide) (by decide) (by decide) (by decide) (by decide), kz 22 (by decide) (by decide) (by decide) (by decide) (by decide)]; exact (h5 b hb).2 j
  · rw [kz 17 (by decide) (by decide) (by decide) (by decide) (by decide), kz 20 (by decide) (by decide) (by decide) (by decide) (by decide)]; exact h6 t ht
  · refine cE_tr (CUR_cE hz.2.2.2.1).2 ?_
    exact repM_cE (a := z) (b := xU u 16 0 0 (z 16 0 0)) (fun k i j q c => by rw [xU_k (by omega)]; exact h2 k i j q c) rfl (LOK_DOK (hz.2.2.1.2 0 (by decide) (by decide))) (fun j j0 j1 => h4 j j0 j1) hzN.1 (Int.le_refl _)
theorem sU_undo {z u : gX} (hz : INV z) (h : EXT z u) : sUndo u (z 16 0 0) = (u 16 0 0 - z 16 0 0, repM (xU u 16 0 0 (z 16 0 0)) 0 (z 16 0 0)) := by
  have := hz.2.2.1.1.1
  unfold sUndo
  rw [if_neg (by have := h.2.2.1; omega)]
theorem KP_undo {z r u : gX} (hz : INV z) (h : EXT z u) (h17 : u 17 = r 17) (h20 : u 20 = r 20) : KP z r (sUndo u (z 16 0 0)).2 := by
  rw [sU_undo hz h]
  refine ⟨EXT_undo hz h, ?_, ?_⟩
  · show repM _ 0 _ 17 = _
    rw [repM_k (by decide) (by decide) (by decide) (by decide), xU_k (by decide)]; exact h17
  · show repM _ 0 _ 20 = _
    rw [repM_k (by decide) (by decide) (by decide) (by decide), xU_k (by decide)]; exact h20
/-- a deed more -/
theorem EXT_per {u : gX} {w h : Int} (hu : INV u) (hn : u 16 0 0 < 40) (hw : wOK u w h) (hs : w = 1 → u 5 h 0 < 3) (ht : w = 2 → u 6 h 0 = -9) : EXT u (perM u w h) := by
  refine ⟨INV_per hu hn hw hs ht, perM_cS u w h, by rw [perM_16]; omega, fun j _ j1 => perM_old u w h (Or.inr (by omega)), fun b hb => ⟨perM_16b u w h hb, fun j => perM_old u w h (Or.inl hb)⟩, fun t _ => ?_⟩
  rw [perM_at u w h (k := 17) (by decide) (by decide) (by decide) (by decide) (by decide) (by decide) (by decide), perM_at u w h (k := 20) (by decide) (by decide) (by decide) (by decide) (by decide) (by decide) (by decide)]
  exact ⟨rfl, rfl⟩
theorem per_1720 (u : gX) (w h : Int) : perM u w h 17 = u 17 ∧ perM u w h 20 = u 20 := by
  rw [perM_at u w h (k := 17) (by decide) (by decide) (by decide) (by decide) (by decide) (by decide) (by decide), perM_at u w h (k := 20) (by decide) (by decide) (by decide) (by decide) (by decide) (by decide) (by decide)]
  exact ⟨rfl, rfl⟩
theorem sumZ_upd {f g : Int → Int} {n i : Int} (h0 : 0 ≤ i) (h1 : i < n) (h : ∀ q : Int, 0 ≤ q → q < n → q ≠ i → g q = f q) : sumZ g n = sumZ f n + (g i - f i) := by
  obtain ⟨m, rfl⟩ : ∃ m : Nat, n = m := ⟨n.toNat, by omega⟩
  induction m with
  | zero => omega
  | succ k ih =>
    rw [show ((k + 1 : Nat) : Int) = (k : Int) + 1 by omega, sumZ_s _ (by omega), sumZ_s _ (by omega)]
    by_cases c : i = (k : Int)
    · rw [sumZ_cong (f := g) (g := f) (n := (k : Int)) (fun q q0 q1 => h q q0 (by omega) (by omega)), c]; omega
    · rw [ih (by omega) (fun q q0 q1 q2 => h q q0 (by omega) q2), h k (by omega) (by omega) (by omega)]; omega
/-- a trial: what it tells, and the court behind it -/
theorem wOK2 {u : gX} {i : Int} (h0 : 0 ≤ i) (h1 : i < u 10 0 0) : wOK u 2 i := ⟨by decide, fun c => absurd c (by decide), fun _ => ⟨h0, h1⟩⟩
theorem wOK1 {u : gX} {i : Int} (h0 : 0 ≤ i) (h1 : i < u 10 0 0) : wOK u 1 i := ⟨by decide, fun c => absurd c (by decide), fun _ => ⟨h0, h1⟩⟩
theorem wOK0 {u : gX} {v : Int} (h : -5 ≤ v ∧ v ≤ 5) : wOK u 0 v := ⟨by decide, fun _ => h, fun c => by omega⟩
theorem per2 {u : gX} {i : Int} (h0 : 0 ≤ i) (h1 : i < u 10 0 0) {k q : Int} (hk : (1 ≤ k ∧ k ≤ 7) ∧ 0 ≤ q ∧ q < u 10 0 0) : perM u 2 i k q 0 = if k = 6 ∧ q = i then vU u i (u 15 0 0) else if k = 7 ∧ q = i then (if sWr (u 2 i 0) (vU u i (u 15 0 0)) then 1 else 0) else u k q 0 := by
  rw [perM_cE (wOK2 h0 h1) k q 0 (by omega), actM_w2 rfl]
  show (if k = 15 ∧ q = 0 ∧ (0 : Int) = 0 then _ else if k = 7 ∧ q = i ∧ (0 : Int) = 0 then (if sWr (u 2 i 0) (vU u i (u 15 0 0)) then 1 else 0) else if k = 6 ∧ q = i ∧ (0 : Int) = 0 then vU u i (u 15 0 0) else u k q 0) = _
  rw [if_neg (by omega)]
  by_cases c6 : k = 6 ∧ q = i
  · rw [if_neg (by omega), if_pos ⟨c6.1, c6.2, rfl⟩, if_pos c6]
  · rw [if_neg c6]
    by_cases c7 : k = 7 ∧ q = i
    · rw [if_pos ⟨c7.1, c7.2, rfl⟩, if_pos c7]
    · rw [if_neg (fun c => c7 ⟨c.1, c.2.1⟩), if_neg (fun c => c6 ⟨c.1, c.2.1⟩), if_neg c7]
theorem per_10 (u : gX) (w h : Int) : perM u w h 10 0 0 = u 10 0 0 := by rw [perM_at u w h (by decide) (by decide) (by decide) (by decide) (by decide) (by decide) (by decide)]
theorem per2_t {u : gX} {i : Int} (h0 : 0 ≤ i) (h1 : i < u 10 0 0) (h6 : u 6 i 0 = -9) (h7 : u 7 i 0 = 0) : twU (perM u 2 i) = twU u + (if sWr (u 2 i 0) (vU u i (u 15 0 0)) then 1 else 0) ∧ tcU (perM u 2 i) = tcU u + (if vU u i (u 15 0 0) = 1 then 1 else 0) ∧ trU (perM u 2 i) = trU u + p2 i ∧ perM u 2 i 15 0 0 = sBeh (u 14 0 0) (vU u i (u 15 0 0)) (tcU u + (if vU u i (u 15 0 0) = 1 then 1 else 0)) (u 15 0 0) := by
  have hv := vU_r u i (u 15 0 0)
  have p7 : perM u 2 i 7 i 0 = if sWr (u 2 i 0) (vU u i (u 15 0 0)) then 1 else 0 := by rw [per2 h0 h1 (by omega), if_neg (by omega), if_pos ⟨rfl, rfl⟩]
  have p6 : perM u 2 i 6 i 0 = vU u i (u 15 0 0) := by rw [per2 h0 h1 (by omega), if_pos ⟨rfl, rfl⟩]
  have o7 : ∀ q : Int, 0 ≤ q → q < u 10 0 0 → q ≠ i → perM u 2 i 7 q 0 = u 7 q 0 := fun q q0 q1 c => by rw [per2 h0 h1 (by omega), if_neg (by omega), if_neg (by omega)]
  have o6 : ∀ q : Int, 0 ≤ q → q < u 10 0 0 → q ≠ i → perM u 2 i 6 q 0 = u 6 q 0 := fun q q0 q1 c => by rw [per2 h0 h1 (by omega), if_neg (by omega), if_neg (by omega)]
  refine ⟨?_, ?_, ?_, ?_⟩
  · show sumZ (fun q => if perM u 2 i 7 q 0 = 1 then 1 else 0) (perM u 2 i 10 0 0) = _
    rw [per_10, sumZ_upd (f := fun q => if u 7 q 0 = 1 then 1 else 0) h0 h1 (fun q q0 q1 c => by rw [o7 q q0 q1 c])]
    show _ + ((if perM u 2 i 7 i 0 = 1 then (1 : Int) else 0) - (if u 7 i 0 = 1 then 1 else 0)) = _
    rw [p7, h7]
    by_cases c : sWr (u 2 i 0) (vU u i (u 15 0 0))
    · rw [if_pos c]; rfl
    · rw [if_neg c]; rfl
  · show sumZ (fun q => if perM u 2 i 6 q 0 = 1 then 1 else 0) (perM u 2 i 10 0 0) = _
    rw [per_10, sumZ_upd (f := fun q => if u 6 q 0 = 1 then 1 else 0) h0 h1 (fun q q0 q1 c => by rw [o6 q q0 q1 c])]
    show _ + ((if perM u 2 i 6 i 0 = 1 then (1 : Int) else 0) - (if u 6 i 0 = 1 then 1 else 0)) = _
    rw [p6, h6, if_neg (show ¬ (-9 : Int) = 1 by decide), Int.sub_zero]
  · show sumZ (fun q => if perM u 2 i 6 q 0 ≠ -9 then p2 q else 0) (perM u 2 i 10 0 0) = _
    rw [per_10, sumZ_upd (f := fun q => if u 6 q 0 ≠ -9 then p2 q else 0) h0 h1 (fun q q0 q1 c => by rw [o6 q q0 q1 c])]
    show _ + ((if perM u 2 i 6 i 0 ≠ -9 then p2 i else 0) - (if u 6 i 0 ≠ -9 then p2 i else 0)) = _
    rw [p6, h6, if_pos (show vU u i (u 15 0 0) ≠ -9 by omega), if_neg (fun c => c rfl), Int.sub_zero]
  · rw [perM_cE (wOK2 h0 h1) 15 0 0 (by omega), actM_w2 rfl, xU_same]
    have e : tcU (xU u 6 i 0 (vU u i (u 15 0 0))) = tcU u + (if vU u i (u 15 0 0) = 1 then 1 else 0) := by
      show sumZ (fun q => if xU u 6 i 0 (vU u i (u 15 0 0)) 6 q 0 = 1 then 1 else 0) (u 10 0 0) = _
      have o : ∀ q : Int, q ≠ i → xU u 6 i 0 (vU u i (u 15 0 0)) 6 q 0 = u 6 q 0 := fun q c => by rw [xU_at, if_neg (fun w => c w.1)]
      rw [sumZ_upd (f := fun q => if u 6 q 0 = 1 then 1 else 0) h0 h1 (fun q _ _ c => by rw [o q c])]
      show _ + ((if xU u 6 i 0 (vU u i (u 15 0 0)) 6 i 0 = 1 then (1 : Int) else 0) - (if u 6 i 0 = 1 then 1 else 0)) = _
      rw [xU_same, h6, if_neg (show ¬ (-9 : Int) = 1 by decide), Int.sub_zero]
    rw [e]
/-- salve for one -/
theorem per1 {u : gX} {i : Int} (h0 : 0 ≤ i) (h1 : i < u 10 0 0) {k q : Int} (hk : ((1 ≤ k ∧ k ≤ 7) ∧ 0 ≤ q ∧ q < u 10 0 0) ∨ (k = 15 ∧ q = 0)) : perM u 1 i k q 0 = if k = 5 ∧ q = i then u 5 i 0 + 1 else u k q 0 := by
  rw [perM_cE (wOK1 h0 h1) k q 0 (by omega), actM_w1 rfl]
  show (if k = 5 ∧ q = i ∧ (0 : Int) = 0 then _ else u k q 0) = _
  by_cases c : k = 5 ∧ q = i
  · rw [if_pos ⟨c.1, c.2, rfl⟩, if_pos c]
  · rw [if_neg (fun w => c ⟨w.1, w.2.1⟩), if_neg c]
/-- heat more or less -/
theorem per0 {u : gX} {v : Int} (h : -5 ≤ v ∧ v ≤ 5) {k q : Int} (hk : ((1 ≤ k ∧ k ≤ 7) ∧ 0 ≤ q ∧ q < u 10 0 0) ∨ (k = 15 ∧ q = 0)) : perM u 0 v k q 0 = if k = 15 then kH (u 15 0 0 + v) else u k q 0 := by
  rw [perM_cE (wOK0 h) k q 0 (by omega), actM_w0 rfl]
  show (if k = 15 ∧ q = 0 ∧ (0 : Int) = 0 then _ else u k q 0) = _
  by_cases c : k = 15
  · rw [if_pos ⟨c, by omega, rfl⟩, if_pos c]
  · rw [if_neg (fun w => c w.1), if_neg c]
/-! what is told of a court that is as it was -/
theorem cU_cE {m : Int} {a b : gX} (e : cE m a b) {i : Int} (h0 : 0 ≤ i) (h1 : i < m) (h : Int) : cU b i h ↔ cU a i h := by
  show sComes (b 1 i 0) (b 2 i 0) (b 3 i 0) h ↔ sComes (a 1 i 0) (a 2 i 0) (a 3 i 0) h
  rw [e 1 i 0 (by omega), e 2 i 0 (by omega), e 3 i 0 (by omega)]
theorem bU_cE {m : Int} {a b : gX} (e : cE m a b) {i : Int} (h0 : 0 ≤ i) (h1 : i < m) (h : Int) : bU b i h = bU a i h := by
  unfold bU
  rw [e 1 i 0 (by omega), e 3 i 0 (by omega), e 4 i 0 (by omega), e 11 0 0 (by omega), e 12 0 0 (by omega)]
theorem lU_cE {m : Int} {a b : gX} (e : cE m a b) {i : Int} (h0 : 0 ≤ i) (h1 : i < m) (h : Int) : lU b i h = lU a i h := by
  unfold lU bU
  rw [e 1 i 0 (by omega), e 3 i 0 (by omega), e 4 i 0 (by omega), e 5 i 0 (by omega), e 11 0 0 (by omega), e 12 0 0 (by omega), e 13 0 0 (by omega)]
theorem dU_cE {m : Int} {a b : gX} (e : cE m a b) {i : Int} (h0 : 0 ≤ i) (h1 : i < m) (w : Int) : dU b i w = dU a i w := by
  have e15 := e 15 0 0 (by omega)
  unfold dU
  rw [e15]
  refine ite_congr rfl (fun _ => e 1 i 0 (by omega)) (fun _ => ite_congr rfl (fun _ => e 2 i 0 (by omega)) (fun _ => ite_congr rfl (fun _ => e 3 i 0 (by omega)) (fun _ => ite_congr rfl (fun _ => by rw [e 1 i 0 (by omega), e 4 i 0 (by omega)]) (fun _ => ite_congr rfl (fun _ => bU_cE e h0 h1 _) (fun _ => ite_congr rfl (fun _ => ite_congr (propext (cU_cE e h0 h1 _)) (fun _ => rfl) (fun _ => rfl)) (fun _ => ite_congr rfl (fun _ => by rw [lU_cE e h0 h1]) (fun _ => ite_congr rfl (fun _ => e 5 i 0 (by omega)) (fun _ => e 6 i 0 (by omega)))))))))
theorem ht_cE {m : Int} {a b : gX} (e : cE m a b) {i : Int} (h0 : 0 ≤ i) (h1 : i < m) (v : Int) : htU b i v = htU a i v := bitsZ_cong (fun h _ _ => by rw [vU_cE e h0 h1 h])
theorem aw_cE {a b : gX} (e : cE (a 10 0 0) a b) (h : Int) : awU b h = awU a h := by
  show sumZ (fun i => if wW b i h then 1 else 0) (b 10 0 0) = _
  rw [e 10 0 0 (by omega)]
  exact sumZ_cong (fun i h0 h1 => by unfold wW; rw [e 6 i 0 (by omega), e 2 i 0 (by omega), vU_cE e h0 h1 h])
theorem gw_cE {a b : gX} (e : cE (a 10 0 0) a b) (h : Int) : gwU b h = gwU a h := by
  show sumZ (fun i => if b 2 i 0 = 1 ∧ wW b i h then 1 else 0) (b 10 0 0) = _
  rw [e 10 0 0 (by omega)]
  exact sumZ_cong (fun i h0 h1 => by unfold wW; rw [e 6 i 0 (by omega), e 2 i 0 (by omega), vU_cE e h0 h1 h])
theorem fo_cE {a b : gX} (e : cE (a 10 0 0) a b) (h : Int) : foU b h = foU a h := by
  show sumZ (fun i => if b 6 i 0 = -9 ∧ vU b i h = 0 then 1 else 0) (b 10 0 0) = _
  rw [e 10 0 0 (by omega)]
  exact sumZ_cong (fun i h0 h1 => by rw [e 6 i 0 (by omega), vU_cE e h0 h1 h])
abbrev cmB (x : gX) : Int := bitsZ (fun i => x 6 i 0 = -9 ∧ vU x i (x 15 0 0) ≠ 2) (x 10 0 0)
abbrev clB (x : gX) : Int := bitsZ (fun i => x 6 i 0 = -9 ∧ vU x i (x 15 0 0) = 1) (x 10 0 0)
theorem cm_cE {a b : gX} (e : cE (a 10 0 0) a b) : cmB b = cmB a := by
  show bitsZ (fun i => b 6 i 0 = -9 ∧ vU b i (b 15 0 0) ≠ 2) (b 10 0 0) = _
  rw [e 10 0 0 (by omega)]
  exact bitsZ_cong (fun i h0 h1 => by rw [e 6 i 0 (by omega), e 15 0 0 (by omega), vU_cE e h0 h1])
theorem cl_cE {a b : gX} (e : cE (a 10 0 0) a b) : clB b = clB a := by
  show bitsZ (fun i => b 6 i 0 = -9 ∧ vU b i (b 15 0 0) = 1) (b 10 0 0) = _
  rw [e 10 0 0 (by omega)]
  exact bitsZ_cong (fun i h0 h1 => by rw [e 6 i 0 (by omega), e 15 0 0 (by omega), vU_cE e h0 h1])
theorem stp_cE {a b : gX} (e : cE (a 10 0 0) a b) {i : Int} (h0 : 0 ≤ i) (h1 : i < a 10 0 0) (p : Int × Int × Int) : stp b i p = stp a i p := by
  unfold stp
  rw [vU_cE e h0 h1, e 2 i 0 (by omega), e 14 0 0 (by omega)]
theorem evN_cE {a b : gX} (e : cE (a 10 0 0) a b) (f : Int → Int) : ∀ k : Nat, (∀ j : Int, 0 ≤ j → j < k → 0 ≤ f j ∧ f j < a 10 0 0) → evN b f k = evN a f k
  | 0, _ => by show (0, tcU b, b 15 0 0) = (0, tcU a, a 15 0 0); rw [tcU_cE e, e 15 0 0 (by omega)]
  | k + 1, h => by
    show stp b (f (k : Int)) (evN b f k) = stp a (f (k : Int)) (evN a f k)
    rw [evN_cE e f k (fun j j0 j1 => h j j0 (by omega))]
    have := h k (by omega) (by omega)
    exact stp_cE e this.1 this.2 _
theorem mb_cE {m : Int} {a b : gX} (e : cE m a b) {i : Int} (h0 : 0 ≤ i) (h1 : i < m) : mbU b i ↔ mbU a i := by
  refine and_congr (by rw [e 6 i 0 (by omega)]) (and_congr (by rw [e 2 i 0 (by omega)]) ?_)
  rw [e 15 0 0 (by omega)]
  exact cU_cE e h0 h1 _
theorem gp_cE {m : Int} {a b : gX} (e : cE m a b) {i : Int} (h0 : 0 ≤ i) (h1 : i < m) (s : Int) : gpU b i s = gpU a i s := by
  show mxZ (fun v => sumZ (fun h => if s / p2 h % 2 = 1 ∧ vU b i h = v then 1 else 0) 31) 3 = _
  congr 1
  funext v
  exact sumZ_cong (fun h _ _ => by rw [vU_cE e h0 h1 h])
