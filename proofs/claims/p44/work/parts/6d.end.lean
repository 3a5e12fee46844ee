/-! the beginning and the end: kept, gone on from, undone, torn, laid anew -/
theorem drN_eq {a b : gX} {ha : Int} (hr : ∀ r : Int, 0 ≤ r → r < 10 → b 17 r 0 = a 17 r 0 ∧ ∀ j : Int, 0 ≤ j → j < a 17 r 0 → b 20 r j = a 20 r j) : ∀ k : Nat, k ≤ 10 → drN b ha k = drN a ha k
  | 0, _ => rfl
  | k + 1, hk => by
    have q := hr (k : Int) (by omega) (by omega)
    show dgZ (fun q => b 20 (k : Int) q) (31 * drN b ha k + b 17 (k : Int) 0) (b 17 (k : Int) 0) = dgZ (fun q => a 20 (k : Int) q) (31 * drN a ha k + a 17 (k : Int) 0) (a 17 (k : Int) 0)
    rw [drN_eq hr k (by omega), q.1]
    exact dgZ_cong (fun j j0 j1 => q.2 j j0 j1)
theorem dig_eq {a b : gX} (h10 : 0 ≤ a 10 0 0) (e : cE (a 10 0 0) a b) (h16 : ∀ q : Int, 0 ≤ q → q < 4 → b 16 q 0 = a 16 q 0) (hr : ∀ r : Int, 0 ≤ r → r < 10 → b 17 r 0 = a 17 r 0 ∧ ∀ j : Int, 0 ≤ j → j < a 17 r 0 → b 20 r j = a 20 r j) : sDigest b = sDigest a := by
  have e10 : b 10 0 0 = a 10 0 0 := e 10 0 0 (by omega)
  have c6 : saU b = saU a := by
    show sumZ (fun i => b 5 i 0) (b 10 0 0) = _
    rw [e10]; exact sumZ_cong (fun i h0 h1 => e 5 i 0 (by omega))
  have c7 : plU b = plU a := by
    show sumZ (fun i => if sOf (b 1 i 0) 1 then 1 else 0) (b 10 0 0) = _
    rw [e10]; exact sumZ_cong (fun i h0 h1 => by rw [e 1 i 0 (by omega)])
  have c8 : hmU b 0 6 = hmU a 0 6 := sumZ_cong (fun r r0 r1 => by rw [(hr (0 + r) (by omega) (by omega)).1])
  have c9 : hmU b 6 4 = hmU a 6 4 := sumZ_cong (fun r r0 r1 => by rw [(hr (6 + r) (by omega) (by omega)).1])
  have c10 : ckU b = ckU a := sumZ_cong (fun k k0 k1 => by rw [h16 (1 + k) (by omega) (by omega)])
  have ct : ∀ k : Int, ctU b k = ctU a k := fun k => by
    unfold ctU
    rw [e10, e 15 0 0 (by omega), h16 0 (by decide) (by decide), trU_cE e, tcU_cE e, twU_cE e, c6, c7, c8, c9, c10]
  have d1 : dg1 b = dg1 a := dgZ_cong (fun k _ _ => ct k)
  have d2 : dg2 b = dg2 a := by
    unfold dg2
    rw [d1, e10]
    exact dgZ_cong (fun q q0 q1 => dU_cE e (by omega) (by omega) _)
  have d3 : dg3 b = dg3 a := by
    unfold dg3
    rw [d2]
    exact dgZ_cong (fun k k0 k1 => h16 (1 + k) (by omega) (by omega))
  unfold sDigest drZ
  rw [d3]
  exact drN_eq hr 10 (Nat.le_refl _)
/-- a court kept ahead of any deed -/
theorem kp0_ok {u : gX} (hu : INV u) (hn : 1 ≤ u 10 0 0) (h16 : u 16 0 0 = 0) : (sKeep u 0).1 = 0 ∧ INV (sKeep u 0).2 ∧ (∀ k : Int, k ≠ 16 → (sKeep u 0).2 k = u k) ∧ (sKeep u 0).2 16 1 0 = 0 ∧ ∀ q : Int, q ≠ 1 → (sKeep u 0).2 16 q 0 = u 16 q 0 := by
  have e : sKeep u 0 = (u 16 0 0, xU (bcM u (1 + 0) 0 (u 16 0 0)) 16 (1 + 0) 0 (u 16 0 0)) := by
    unfold sKeep
    rw [if_neg (by decide), if_neg (by omega)]
  have i := INV_keep (k := 0) hu (by decide)
  rw [e]
  refine ⟨h16, i, fun k hk => ?_, ?_, fun q hq => ?_⟩
  · show xU (bcM u (1 + 0) 0 (u 16 0 0)) 16 (1 + 0) 0 (u 16 0 0) k = u k
    rw [xU_k hk, h16]
    funext a b
    unfold bcM
    rw [if_neg (by omega), if_neg (by omega)]
  · show xU (bcM u (1 + 0) 0 (u 16 0 0)) 16 (1 + 0) 0 (u 16 0 0) 16 (1 + 0) 0 = 0
    rw [xU_same]; exact h16
  · show xU (bcM u (1 + 0) 0 (u 16 0 0)) 16 (1 + 0) 0 (u 16 0 0) 16 q 0 = _
    rw [xU_at, if_neg (by omega), bcM_k _ _ _ _ (by decide) (by decide)]
/-- texts as they were -/
def TX (z u : gX) : Prop := INV u ∧ ∀ t : Int, 6 ≤ t → u 17 t = z 17 t ∧ u 20 t = z 20 t
theorem TX_tr {z u v : gX} (h : TX z u) (hv : INV v) (e : ∀ t : Int, 6 ≤ t → v 17 t = u 17 t ∧ v 20 t = u 20 t) : TX z v := ⟨hv, fun t ht => ⟨(e t ht).1.trans (h.2 t ht).1, (e t ht).2.trans (h.2 t ht).2⟩⟩
theorem kp1_ok {z u : gX} (h : TX z u) (hn : 1 ≤ u 10 0 0) : (sKeep u 1).1 = u 16 0 0 ∧ TX z (sKeep u 1).2 ∧ (sKeep u 1).2 10 0 0 = u 10 0 0 ∧ (sKeep u 1).2 16 1 0 = u 16 1 0 ∧ (sKeep u 1).2 16 2 0 = u 16 0 0 := by
  have e : sKeep u 1 = (u 16 0 0, xU (bcM u (1 + 1) 0 (u 16 0 0)) 16 (1 + 1) 0 (u 16 0 0)) := by
    unfold sKeep
    rw [if_neg (by decide), if_neg (by omega)]
  have i := INV_keep (k := 1) h.1 (by decide)
  rw [e]
  refine ⟨rfl, TX_tr h i (fun t _ => ?_), ?_, ?_, ?_⟩
  · show xU (bcM u (1 + 1) 0 (u 16 0 0)) 16 (1 + 1) 0 (u 16 0 0) 17 t = u 17 t ∧ xU (bcM u (1 + 1) 0 (u 16 0 0)) 16 (1 + 1) 0 (u 16 0 0) 20 t = u 20 t
    rw [xU_k (by decide), xU_k (by decide), bcM_k _ _ _ _ (by decide) (by decide), bcM_k _ _ _ _ (by decide) (by decide)]
    exact ⟨rfl, rfl⟩
  · show xU (bcM u (1 + 1) 0 (u 16 0 0)) 16 (1 + 1) 0 (u 16 0 0) 10 0 0 = _
    rw [xU_k (by decide), bcM_k _ _ _ _ (by decide) (by decide)]
  · show xU (bcM u (1 + 1) 0 (u 16 0 0)) 16 (1 + 1) 0 (u 16 0 0) 16 1 0 = _
    rw [xU_at, if_neg (by omega), bcM_k _ _ _ _ (by decide) (by decide)]
  · show xU (bcM u (1 + 1) 0 (u 16 0 0)) 16 (1 + 1) 0 (u 16 0 0) 16 (1 + 1) 0 = _
    rw [xU_same]
theorem on_ok {z u : gX} {k m : Int} (h : TX z u) (hk : 0 ≤ k ∧ k < 3) (hm : u 16 (1 + k) 0 = m) (h0 : 0 ≤ m) : (sOn u k).1 = m ∧ TX z (sOn u k).2 ∧ (sOn u k).2 10 0 0 = u 10 0 0 ∧ (sOn u k).2 16 0 0 = m ∧ (∀ q : Int, q ≠ 0 → (sOn u k).2 16 q 0 = u 16 q 0) ∧ (m = 0 → trU (sOn u k).2 = 0) := by
  have e : sOn u k = (u 16 (1 + k) 0, repM (onM u k) 0 (u 16 (1 + k) 0)) := by
    unfold sOn
    rw [if_neg (fun c => c hk), if_neg (by omega)]
  have i := INV_on (k := k) h.1 hk (by omega)
  have kk : ∀ q : Int, q ≠ 5 → q ≠ 6 → q ≠ 7 → q ≠ 15 → repM (onM u k) 0 (u 16 (1 + k) 0) q = onM u k q := fun q a b c d => repM_k a b c d
  rw [e]
  refine ⟨hm, TX_tr h i (fun t _ => ?_), ?_, ?_, fun q hq => ?_, fun c => ?_⟩
  · show repM (onM u k) 0 (u 16 (1 + k) 0) 17 t = u 17 t ∧ repM (onM u k) 0 (u 16 (1 + k) 0) 20 t = u 20 t
    rw [kk 17 (by decide) (by decide) (by decide) (by decide), kk 20 (by decide) (by decide) (by decide) (by decide), onM, xU_k (by decide), xU_k (by decide), bcM_k _ _ _ _ (by decide) (by decide), bcM_k _ _ _ _ (by decide) (by decide)]
    exact ⟨rfl, rfl⟩
  · show repM (onM u k) 0 (u 16 (1 + k) 0) 10 0 0 = _
    rw [kk 10 (by decide) (by decide) (by decide) (by decide), onM, xU_k (by decide), bcM_k _ _ _ _ (by decide) (by decide)]
  · show repM (onM u k) 0 (u 16 (1 + k) 0) 16 0 0 = m
    rw [kk 16 (by decide) (by decide) (by decide) (by decide), onM, xU_same]; exact hm
  · show repM (onM u k) 0 (u 16 (1 + k) 0) 16 q 0 = _
    rw [kk 16 (by decide) (by decide) (by decide) (by decide), onM, xU_at, if_neg (fun w => hq w.1), bcM_k _ _ _ _ (by decide) (by decide)]
  · show trU (repM (onM u k) 0 (u 16 (1 + k) 0)) = 0
    rw [hm, c]
    have e10 : repM (onM u k) 0 0 10 0 0 = onM u k 10 0 0 := repM_10 _ _ _
    have h10 := h.1.1.2.1.1
    have o10 : onM u k 10 0 0 = u 10 0 0 := by rw [onM, xU_k (by decide), bcM_k _ _ _ _ (by decide) (by decide)]
    refine sum_0 (by rw [e10, o10]; exact h10) (fun i i0 i1 => ?_)
    rw [e10] at i1
    have q6 : repM (onM u k) 0 0 6 i 0 = -9 := by
      show rsM (xU (onM u k) 15 0 0 8) (onM u k 10 0 0) 6 i 0 = -9
      unfold rsM
      rw [if_pos ⟨Or.inr (Or.inl rfl), i0, i1, rfl⟩]; rfl
    rw [if_neg (fun w => w q6)]
theorem un0_ok {z u : gX} (h : TX z u) : (sUndo u 0).1 = u 16 0 0 ∧ TX z (sUndo u 0).2 ∧ (sUndo u 0).2 15 0 0 = 8 := by
  have hd := h.1.2.2.1.1.1
  have e : sUndo u 0 = (u 16 0 0 - 0, repM (xU u 16 0 0 0) 0 0) := by
    unfold sUndo
    rw [if_neg (by omega)]
  have i := INV_undo (n := 0) h.1 ⟨by decide, hd.1⟩
  rw [e]
  refine ⟨by show u 16 0 0 - 0 = u 16 0 0; omega, TX_tr h i (fun t _ => ?_), ?_⟩
  · show repM (xU u 16 0 0 0) 0 0 17 t = u 17 t ∧ repM (xU u 16 0 0 0) 0 0 20 t = u 20 t
    rw [repM_k (by decide) (by decide) (by decide) (by decide), repM_k (by decide) (by decide) (by decide) (by decide), xU_k (by decide), xU_k (by decide)]
    exact ⟨rfl, rfl⟩
  · show rsM (xU (xU u 16 0 0 0) 15 0 0 8) (xU u 16 0 0 0 10 0 0) 15 0 0 = 8
    rw [rsM_k (by decide) (by decide) (by decide), xU_same]
theorem tea_ok {z u : gX} {r : Int} (h : TX z u) (hr : 0 ≤ r ∧ r < 6) : ((sTear u r).1 = 1 ∨ (sTear u r).1 = -3) ∧ TX z (sTear u r).2 ∧ (sTear u r).2 17 r 0 = -1 ∧ ∀ q : Int, q ≠ r → (sTear u r).2 17 q = u 17 q := by
  by_cases c : u 17 r 0 = -1
  · have m : mRf u 6 r r = (-3, fnd u 1) := by
      unfold mRf
      rw [if_neg (fun w => w hr), if_pos c]
    have e : sTear u r = (-3, fnd u 1) := by
      unfold sTear
      rw [m, if_pos (show (-3 : Int) ≠ 0 by decide)]
    rw [e]
    exact ⟨Or.inr rfl, TX_tr h (INV_fnd h.1 1) (fun t _ => ⟨rfl, rfl⟩), c, fun q _ => rfl⟩
  · have m : mRf u 6 r r = (0, u) := by
      unfold mRf
      rw [if_neg (fun w => w hr), if_neg c]
    have e : sTear u r = (1, xU u 17 r 0 (-1)) := by
      unfold sTear
      rw [m, if_neg (fun w => w rfl)]
    rw [e]
    refine ⟨Or.inl rfl, TX_tr h (INV_tear h.1 r) (fun t ht => ⟨?_, rfl⟩), xU_same _ _ _ _ _, fun q hq => ?_⟩
    · show xU u 17 r 0 (-1) 17 t = u 17 t
      rw [xU_i (by omega)]
    · show xU u 17 r 0 (-1) 17 q = u 17 q
      rw [xU_i hq]
/-- what holds at the beginning: b is the memory behind court, z behind keep -/
def BEG (b z : gX) : Prop := INV b ∧ INV z ∧ 1 ≤ b 10 0 0 ∧ b 16 0 0 = 0 ∧ (∀ q : Int, 1 ≤ q → q < 4 → b 16 q 0 = -1) ∧ (∀ r : Int, 0 ≤ r → r < 10 → r ≠ 6 → b 17 r 0 = -1) ∧ b 17 6 0 = 50 ∧ FRS b ∧ (∀ k : Int, k ≠ 16 → z k = b k) ∧ z 16 1 0 = 0 ∧ ∀ q : Int, q ≠ 1 → z 16 q 0 = b 16 q 0
theorem cou_end {b z u v : gX} (h : BEG b z) (t : TX z u) (hr : ∀ r : Int, 0 ≤ r → r < 6 → u 17 r 0 = -1) : (sCourt u 0).1 = z 10 0 0 ∧ (xG (sCourt u 0).2 v → INV v ∧ sDigest v = sDigest b) := by
  obtain ⟨hb, hz, hn, h16, h16b, h17, h176, ⟨f1, f2, f3⟩, hk, k1, k2⟩ := h
  have z17 : z 17 = b 17 := hk 17 (by decide)
  have z20 : z 20 = b 20 := hk 20 (by decide)
  have t6 := t.2 6 (by decide)
  have u17 : u 17 6 = b 17 6 := t6.1.trans (by rw [z17])
  have u20 : u 20 6 = b 20 6 := t6.2.trans (by rw [z20])
  have z10 : z 10 0 0 = b 10 0 0 := by rw [hk 10 (by decide)]
  have m : mRf u 4 (6 + 0) 0 = (0, u) := by
    unfold mRf
    rw [if_neg (by decide), if_neg (by show ¬ u 17 6 0 = -1; rw [u17, h176]; decide)]
  have e : sCourt u 0 = (rcF (u 20 6) (u 17 6 0), couM u 6) := by
    unfold sCourt
    rw [m, if_neg (fun c => c rfl)]
    show (if rdF (u 20 6) (u 17 6 0) ≠ -9 then (-4, u) else (rcF (u 20 6) (u 17 6 0), couM u 6)) = _
    rw [if_neg (by rw [u20, u17]; exact fun c => c f1)]
  rw [e]
  refine ⟨by show rcF (u 20 6) (u 17 6 0) = _; rw [u20, u17, z10]; exact f2, fun hG => ?_⟩
  have hG : xG (couM u 6) v := hG
  have q : ∀ k i j : Int, ¬ scr k i → v k i j = couM u 6 k i j := hG.1
  have hV : INV v := INV_xG (INV_court (t := 0) t.1 (by decide) (by show rdF (u 20 6) (u 17 6 0) = -9; rw [u20, u17]; exact f1)) hG
  have h6 := hb.1.2.1
  have c1 : cE (b 10 0 0) (couM b 6) (couM u 6) := by
    have := cou_cE (a := b) (b := u) u20 (by rw [u17])
    rw [f2] at this
    exact this
  have ce : cE (b 10 0 0) b v := cE_tr (cE_sy f3) (cE_tr c1 (fun k i j w => q k i j (by unfold scr; omega)))
  refine ⟨hV, dig_eq h6.1 ce (fun w w0 w1 => ?_) (fun r r0 r1 => ?_)⟩
  · rw [q 16 w 0 (by unfold scr; omega)]
    by_cases c : w = 0
    · rw [c, couM_160, h16]
    · rw [couM_16b u 6 (by omega) w1, h16b w (by omega) w1]
  · have v17 : v 17 r 0 = u 17 r 0 := by rw [q 17 r 0 (by unfold scr; omega), couM_k u 6 (k := 17) (by decide)]
    by_cases c : r < 6
    · rw [v17, hr r r0 c, h17 r r0 r1 (by omega)]
      exact ⟨rfl, fun j j0 j1 => by omega⟩
    · have tr := t.2 r (by omega)
      refine ⟨by rw [v17, tr.1, z17], fun j _ _ => ?_⟩
      rw [q 20 r j (by unfold scr; omega), couM_k u 6 (k := 20) (by decide), tr.2, z20]
theorem g_sameLn {Θ : gT} {l : Launch} {D : gD} {ad : gA} {cc : ByteArray} {own : String} {nL d pc : Nat} {lv : List (Nat × Value)} {st : List Value} {x : gX} {y : gY} {off : Int} {v : Int64} (tgt : Nat) (F : gF Θ l D ad cc own nL d) (hd0 : decode cc pc = .ok (.lcmp, 1)) (hd : decode cc (pc + 1) = .ok (.ifCond .ne off, 3)) (ht : ((pc + 1 : Nat) : Int) + off = (tgt : Int)) (kk : gW Θ l D ad nL (pc + 1 + 3) lv st x y) : gW Θ l D ad nL pc lv (.long v :: .long v :: st) x y := by
  obtain ⟨p, e, R, s, m, args, below, meth, c, Q, A, H0, cells, slots⟩ := Θ
  obtain ⟨hx, hb, hml, ho, hts, hN, hK, hAp, hr1, hr2, hr3, hr4⟩ := F
  intro H locs ls hl hP hS
  refine W.lcmp hx hb hd0 ?_
  have e0 : lg_cmp v v = 0 := by simp [lg_cmp]
  rw [e0]
  exact lv_if_ne hx hb hd ht (fun h => absurd rfl h) (fun _ => kk H locs ls hl hP hS)
