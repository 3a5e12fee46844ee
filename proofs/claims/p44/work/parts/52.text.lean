/-! a court's text, laid by cells -/
def GI (g : Int → Int) : Prop := (1 ≤ g 0 ∧ g 0 ≤ 6) ∧ (1 ≤ g 1 ∧ g 1 ≤ 3) ∧ (0 ≤ g 2 ∧ g 2 ≤ 9) ∧ (0 ≤ g 3 ∧ g 3 ≤ 9) ∧ (1 ≤ g 4 ∧ g 4 ≤ 6)
def GM (g : Int → Int) (m : Int) : Prop := ∀ i : Int, 0 ≤ i → i < m → (0 ≤ g (5 + i) ∧ g (5 + i) ≤ 5) ∧ (0 ≤ g (11 + i) ∧ g (11 + i) ≤ 1) ∧ (0 ≤ g (17 + i) ∧ g (17 + i) ≤ 9) ∧ (0 ≤ g (23 + i) ∧ g (23 + i) ≤ 9)
def TXP (t g : Int → Int) (m : Int) : Prop := t 0 = 105 ∧ (∀ k : Int, 1 ≤ k → k ≤ 4 → t k = 48 + g k) ∧ (∀ i : Int, 0 ≤ i → i < m → t (5 + 5 * i) = 32 ∧ t (6 + 5 * i) = ltrZ (g (5 + i)) ∧ t (7 + 5 * i) = 48 + g (11 + i) ∧ t (8 + 5 * i) = 48 + g (17 + i) ∧ t (9 + 5 * i) = 48 + g (23 + i)) ∧ ∀ j : Int, 5 + 5 * m ≤ j → j < 50 → t j = 32
theorem ltr_r {k : Int} (h : 0 ≤ k ∧ k ≤ 5) : 99 ≤ ltrZ k ∧ ltrZ k ≤ 120 ∧ kdO (ltrZ k) = k := by
  rcases (show k = 0 ∨ k = 1 ∨ k = 2 ∨ k = 3 ∨ k = 4 ∨ k = 5 by omega) with rfl | rfl | rfl | rfl | rfl | rfl <;> decide
theorem sk_all {t : Int → Int} {n : Int} : ∀ (k : Nat) (p : Int), p + k = n → (∀ j : Int, p ≤ j → j < n → t j = 32) → sk t n p = n
  | 0, p, e, _ => by rw [sk_stop (by omega)]; omega
  | k + 1, p, e, h => by
    rw [sk_go (by omega) (h p (by omega) (by omega))]
    exact sk_all k (p + 1) (by omega) (fun j a b => h j (by omega) b)
theorem tx_sk {t g : Int → Int} {n : Int} (h : TXP t g n) : sk t 50 0 = 0 := sk_stop (by rw [h.1]; omega)
theorem tx_q {t g : Int → Int} {n : Int} (h : TXP t g n) (hm : GM g n) (hn : 1 ≤ n ∧ n ≤ 6) : ∀ i : Nat, ((i : Int) < n → qP t 50 (i : Int) = 6 + 5 * (i : Int)) ∧ ((i : Int) = n → qP t 50 (i : Int) = 50) := by
  have step : ∀ i : Int, 0 ≤ i → i ≤ n → eP t 50 i = 5 + 5 * i → (i < n → qP t 50 i = 6 + 5 * i) ∧ (i = n → qP t 50 i = 50) := by
    intro i h0 h1 he
    refine ⟨fun c => ?_, fun c => ?_⟩
    · unfold qP
      rw [he, sk_go (by omega) (h.2.2.1 i h0 c).1]
      have hl := ltr_r (hm i h0 c).1
      have e : t (5 + 5 * i + 1) = ltrZ (g (5 + i)) := by rw [show 5 + 5 * i + 1 = 6 + 5 * i by omega]; exact (h.2.2.1 i h0 c).2.1
      rw [sk_stop (by rw [e]; omega)]
      omega
    · unfold qP
      rw [he]
      exact sk_all (50 - (5 + 5 * i)).toNat _ (by omega) (fun j a b => h.2.2.2 j (by omega) b)
  intro i
  induction i with
  | zero =>
    refine step 0 (Int.le_refl _) (by omega) ?_
    show sk t 50 0 + 5 = _
    rw [tx_sk h]; rfl
  | succ k ih =>
    have hs : (k : Int) < n → eP t 50 ((k + 1 : Nat) : Int) = 5 + 5 * ((k + 1 : Nat) : Int) := fun c => by
      rw [show ((k + 1 : Nat) : Int) = (k : Int) + 1 by omega, eP_s t 50 (by omega), ih.1 c]; omega
    refine ⟨fun c => (step _ (by omega) (by omega) (hs (by omega))).1 c, fun c => (step _ (by omega) (by omega) (hs (by omega))).2 c⟩
theorem tx_qi {t g : Int → Int} {n : Int} (h : TXP t g n) (hm : GM g n) (hn : 1 ≤ n ∧ n ≤ 6) {i : Int} (h0 : 0 ≤ i) (h1 : i < n) : qP t 50 i = 6 + 5 * i := by
  have := (tx_q h hm hn i.toNat).1
  rw [Int.toNat_of_nonneg h0] at this
  exact this h1
theorem tx_qn {t g : Int → Int} {n : Int} (h : TXP t g n) (hm : GM g n) (hn : 1 ≤ n ∧ n ≤ 6) : qP t 50 n = 50 := by
  have := (tx_q h hm hn n.toNat).2
  rw [Int.toNat_of_nonneg (by omega)] at this
  exact this rfl
theorem tx_mn {t g : Int → Int} {n : Int} (h : TXP t g n) (hm : GM g n) (hn : 1 ≤ n ∧ n ≤ 6) {i : Int} (h0 : 0 ≤ i) (h1 : i < n) : mnP t 50 (qP t 50 i) = qP t 50 i + 4 := by
  have q := tx_qi h hm hn h0 h1
  obtain ⟨_, a1, a2, a3, a4⟩ := h.2.2.1 i h0 h1
  obtain ⟨b1, b2, b3, b4⟩ := hm i h0 h1
  have hl := ltr_r b1
  rw [q]
  unfold mnP fgP
  rw [show 6 + 5 * i + 1 = 7 + 5 * i by omega, show 6 + 5 * i + 2 = 8 + 5 * i by omega, show 6 + 5 * i + 3 = 9 + 5 * i by omega, a1, a2, a3, a4, hl.2.2]
  rw [if_neg (by omega), if_neg (by omega), if_neg (by omega), if_neg (by omega)]
theorem tx_rd {t g : Int → Int} {n : Int} (h : TXP t g n) (hm : GM g n) (hn : 1 ≤ n ∧ n ≤ 6) : ∀ (k : Nat) (i : Int), 0 ≤ i → i ≤ n → n ≤ i + k → rdN t 50 k i = -9 ∧ rcN t 50 k i = n
  | 0, i, h0, h1, h2 => by
    have e : i = n := by omega
    subst e
    rw [rdN_end (by rw [tx_qn h hm hn]; omega), rcN_end (by rw [tx_qn h hm hn]; omega), if_pos (by omega)]
    exact ⟨rfl, rfl⟩
  | k + 1, i, h0, h1, h2 => by
    by_cases c : i = n
    · subst c
      rw [rdN_end (by rw [tx_qn h hm hn]; omega), rcN_end (by rw [tx_qn h hm hn]; omega), if_pos (by omega)]
      exact ⟨rfl, rfl⟩
    · have q := tx_qi h hm hn h0 (by omega)
      rw [rdN_go (by rw [q]; omega) (tx_mn h hm hn h0 (by omega)), rcN_go (by rw [q]; omega) (tx_mn h hm hn h0 (by omega))]
      exact tx_rd h hm hn k (i + 1) (by omega) (by omega) (by omega)
theorem tx_F {t g : Int → Int} {n : Int} (h : TXP t g n) (hi : GI g) (hm : GM g n) (hn : 1 ≤ n ∧ n ≤ 6) : rdF t 50 = -9 ∧ rcF t 50 = n := by
  have r := tx_rd h hm hn 6 0 (Int.le_refl _) (by omega) (by omega)
  refine ⟨?_, r.2⟩
  unfold rdF
  rw [tx_sk h]
  have e : irP t 50 0 = 0 + 5 := by
    have k1 := h.2.1 1 (by decide) (by decide)
    have k2 := h.2.1 2 (by decide) (by decide)
    have k3 := h.2.1 3 (by decide) (by decide)
    have k4 := h.2.1 4 (by decide) (by decide)
    obtain ⟨_, i1, i2, i3, i4⟩ := hi
    unfold irP fgP
    rw [show (0 : Int) + 1 = 1 by decide, show (0 : Int) + 2 = 2 by decide, show (0 : Int) + 3 = 3 by decide, show (0 : Int) + 4 = 4 by decide, k1, k2, k3, k4, h.1]
    rw [if_neg (by omega), if_neg (by omega), if_neg (by omega), if_neg (by omega), if_neg (by omega)]
  rw [if_pos e]
  exact r.1
theorem tx_rN {t g : Int → Int} {n : Int} (h : TXP t g n) (hm : GM g n) (hn : 1 ≤ n ∧ n ≤ 6) : (rN t 50 0 = g 1 ∧ rN t 50 1 = g 2 ∧ rN t 50 2 = g 3 ∧ rN t 50 3 = g 4) ∧ ∀ i : Int, 0 ≤ i → i < n → rN t 50 (4 + 4 * i + 0) = g (5 + i) ∧ rN t 50 (4 + 4 * i + 1) = g (11 + i) ∧ rN t 50 (4 + 4 * i + 2) = g (17 + i) ∧ rN t 50 (4 + 4 * i + 3) = g (23 + i) := by
  refine ⟨⟨?_, ?_, ?_, ?_⟩, fun i h0 h1 => ?_⟩
  · unfold rN
    rw [if_pos (by decide), tx_sk h, show (0 : Int) + 1 + 0 = 1 by decide, h.2.1 1 (by decide) (by decide)]; omega
  · unfold rN
    rw [if_pos (by decide), tx_sk h, show (0 : Int) + 1 + 1 = 2 by decide, h.2.1 2 (by decide) (by decide)]; omega
  · unfold rN
    rw [if_pos (by decide), tx_sk h, show (0 : Int) + 1 + 2 = 3 by decide, h.2.1 3 (by decide) (by decide)]; omega
  · unfold rN
    rw [if_pos (by decide), tx_sk h, show (0 : Int) + 1 + 3 = 4 by decide, h.2.1 4 (by decide) (by decide)]; omega
  · have q := tx_qi h hm hn h0 h1
    obtain ⟨_, a1, a2, a3, a4⟩ := h.2.2.1 i h0 h1
    have hl := ltr_r (hm i h0 h1).1
    refine ⟨?_, ?_, ?_, ?_⟩
    · unfold rN
      rw [if_neg (by omega), if_pos (by omega), show (4 + 4 * i + 0 - 4) / 4 = i by omega, q, a1]; exact hl.2.2
    · unfold rN
      rw [if_neg (by omega), if_neg (by omega), show (4 + 4 * i + 1 - 4) / 4 = i by omega, q, show (4 + 4 * i + 1 - 4) % 4 = 1 by omega, show 6 + 5 * i + 1 = 7 + 5 * i by omega, a2]; omega
    · unfold rN
      rw [if_neg (by omega), if_neg (by omega), show (4 + 4 * i + 2 - 4) / 4 = i by omega, q, show (4 + 4 * i + 2 - 4) % 4 = 2 by omega, show 6 + 5 * i + 2 = 8 + 5 * i by omega, a3]; omega
    · unfold rN
      rw [if_neg (by omega), if_neg (by omega), show (4 + 4 * i + 3 - 4) / 4 = i by omega, q, show (4 + 4 * i + 3 - 4) % 4 = 3 by omega, show 6 + 5 * i + 3 = 9 + 5 * i by omega, a4]; omega
/-- what is laid of a text, the court aside -/
def CP (x u : gX) : Prop := INV u ∧ (∀ r : Int, r ≠ 6 → u 17 r = x 17 r ∧ u 20 r = x 20 r) ∧ u 17 6 0 = 50
theorem txt_ok {x : gX} (h : INV x) : (lRf x 4 (6 + 0) 60 0 50 32).1 = 50 ∧ CP x (lRf x 4 (6 + 0) 60 0 50 32).2 ∧ ∀ j : Int, 0 ≤ j → j < 50 → (lRf x 4 (6 + 0) 60 0 50 32).2 20 6 j = 32 := by
  have e : lRf x 4 (6 + 0) 60 0 50 32 = (50, xU (flM x 6 32 50) 17 6 0 50) := by
    unfold lRf
    rw [if_neg (by decide), if_neg (by decide)]; rfl
  rw [e]
  refine ⟨rfl, ⟨INV_lay h (by decide) (by decide), fun r hr => ⟨?_, ?_⟩, ?_⟩, fun j j0 j1 => ?_⟩
  · show xU (flM x 6 32 50) 17 6 0 50 17 r = _
    rw [xU_i hr, flM_k _ _ _ _ (by decide)]
  · show xU (flM x 6 32 50) 17 6 0 50 20 r = _
    rw [xU_k (by decide)]
    funext j
    unfold flM
    rw [if_neg (fun c => hr c.2.1)]
  · show xU (flM x 6 32 50) 17 6 0 50 17 6 0 = 50
    rw [xU_same]
  · show xU (flM x 6 32 50) 17 6 0 50 20 6 j = 32
    rw [xU_k (by decide)]
    unfold flM
    rw [if_pos ⟨rfl, rfl, j0, j1⟩]
theorem cb_id {v : Int} (h : 0 ≤ v ∧ v ≤ 127) : cb v = v := by
  unfold cb
  exact Int.bmod_eq_of_le (by omega) (by omega)
theorem put_ok {x u : gX} {i v : Int} (h : CP x u) (hi : 0 ≤ i ∧ i < 50) (hv : 0 ≤ v ∧ v ≤ 127) (hb : u 20 6 i = 32) : (sPut u 0 i v).1 = 1032 ∧ CP x (sPut u 0 i v).2 ∧ ∀ j : Int, (sPut u 0 i v).2 20 6 j = if j = i then v else u 20 6 j := by
  obtain ⟨h1, h3, h4⟩ := h
  have e : sPut u 0 i v = (1032, xU u 20 6 i v) := by
    have p : pRf u 4 (6 + 0) 0 i = (0, u) := by
      have m : mRf u 4 (6 + 0) 0 = (0, u) := by
        unfold mRf
        rw [if_neg (by decide), if_neg (by show ¬ u 17 6 0 = -1; rw [h4]; decide)]
      unfold pRf
      rw [m, if_neg (fun c => c rfl), if_pos (by show 0 ≤ i ∧ i < u 17 6 0; rw [h4]; exact hi)]
    unfold sPut
    rw [p, if_neg (fun c => c rfl)]
    show (1000 + u 20 6 i, xU u 20 6 i (cb v)) = _
    rw [hb, cb_id hv]; rfl
  rw [e]
  refine ⟨rfl, ⟨INV_at h1 ⟨by omega, by omega⟩ (fun _ => by omega), fun r hr => ⟨(h3 r hr).1, ?_⟩, h4⟩, fun j => ?_⟩
  · show xU u 20 6 i v 20 r = x 20 r
    rw [xU_i hr]; exact (h3 r hr).2
  · show xU u 20 6 i v 20 6 j = _
    rw [xU_at]
    by_cases c : j = i
    · rw [if_pos ⟨rfl, c⟩, if_pos c]
    · rw [if_neg (fun q => c q.2), if_neg c]
theorem cou_cE {a b : gX} (h20 : b 20 6 = a 20 6) (h17 : b 17 6 0 = a 17 6 0) : cE (rcF (a 20 6) (a 17 6 0)) (couM a 6) (couM b 6) := fun k i j q => by
  rcases (show k = 15 ∨ (k = 5 ∨ k = 6 ∨ k = 7) ∨ (k ≠ 5 ∧ k ≠ 6 ∧ k ≠ 7 ∧ k ≠ 15 ∧ k ≠ 16) by omega) with c | c | c
  · have hi : i = 0 ∧ j = 0 := by omega
    rw [c, hi.1, hi.2, couM_15, couM_15]
  · have hi : (0 ≤ i ∧ i < rcF (a 20 6) (a 17 6 0)) ∧ j = 0 := by omega
    rw [hi.2, couM_567 b 6 c hi.1.1 (by rw [h20, h17]; exact hi.1.2), couM_567 a 6 c hi.1.1 hi.1.2]
  · rw [couM_st b 6 ⟨c.1, c.2.1, c.2.2.1, c.2.2.2.1, c.2.2.2.2⟩, couM_st a 6 ⟨c.1, c.2.1, c.2.2.1, c.2.2.2.1, c.2.2.2.2⟩]
    unfold asN
    rw [h20, h17]
    refine ite_congr rfl (fun _ => rfl) (fun g => ?_)
    have hk : 10 ≤ k ∧ k ≤ 14 ∧ i = 0 ∧ j = 0 := by omega
    unfold asHR
    rw [h20, h17, hk.2.2.1, hk.2.2.2]
    rcases (show k = 10 ∨ k = 11 ∨ k = 12 ∨ k = 13 ∨ k = 14 by omega) with rfl | rfl | rfl | rfl | rfl <;> rfl
def FRS (u : gX) : Prop := rdF (u 20 6) (u 17 6 0) = -9 ∧ rcF (u 20 6) (u 17 6 0) = u 10 0 0 ∧ cE (u 10 0 0) (couM u 6) u
def CT (x u : gX) (w : gY) : Prop := INV u ∧ PG u w ∧ PV u w ∧ 1 ≤ u 10 0 0 ∧ u 16 0 0 = 0 ∧ (∀ b : Int, 1 ≤ b → b < 4 → u 16 b 0 = -1) ∧ (∀ r : Int, r ≠ 6 → u 17 r = x 17 r ∧ u 20 r = x 20 r) ∧ u 17 6 0 = 50 ∧ FRS u
theorem flt_ok {x u : gX} (h : CP x u) {g : Int → Int} {n : Int} (hT : TXP (u 20 6) g n) (hi : GI g) (hm : GM g n) (hn : 1 ≤ n ∧ n ≤ 6) : sFault u 0 = (-9, u) ∧ sCourt u 0 = (n, couM u 6) := by
  have F := tx_F hT hi hm hn
  have m : mRf u 4 (6 + 0) 0 = (0, u) := by
    unfold mRf
    rw [if_neg (by decide), if_neg (by show ¬ u 17 6 0 = -1; rw [h.2.2]; decide)]
  refine ⟨?_, ?_⟩
  · unfold sFault
    rw [m, if_neg (fun c => c rfl)]
    show (rdF (u 20 6) (u 17 6 0), u) = _
    rw [h.2.2, F.1]
  · unfold sCourt
    rw [m, if_neg (fun c => c rfl)]
    show (if rdF (u 20 6) (u 17 6 0) ≠ -9 then (-4, u) else (rcF (u 20 6) (u 17 6 0), couM u 6)) = _
    rw [h.2.2, F.1, F.2, if_neg (fun c => c rfl)]
theorem cou_ok {x u v : gX} {w : gY} (h : CP x u) (hT : TXP (u 20 6) (w 41) (w 41 0)) (hi : GI (w 41)) (hm : GM (w 41) (w 41 0)) (hw : ∀ j : Int, 0 ≤ j → j < 16 → w 42 j = if j = 0 then 8 else if j < 10 then 0 else -9) (e : xG (couM u 6) v) : CT x v w := by
  have hn := hi.1
  have F := tx_F hT hi hm hn
  have R := tx_rN hT hm hn
  obtain ⟨h1, h3, h4⟩ := h
  have q : ∀ k i j : Int, ¬ scr k i → v k i j = couM u 6 k i j := e.1
  have hV : INV v := INV_xG (INV_court (t := 0) h1 (by decide) (by show rdF (u 20 6) (u 17 6 0) = -9; rw [h4]; exact F.1)) e
  have c10 : couM u 6 10 0 0 = w 41 0 := by rw [couM_10, h4]; exact F.2
  have v10 : v 10 0 0 = w 41 0 := (q 10 0 0 (by unfold scr; omega)).trans c10
  have k20 : v 20 = u 20 := funext fun i => funext fun j => by rw [q 20 i j (by unfold scr; omega), couM_k u 6 (k := 20) (by decide)]
  have k17 : v 17 = u 17 := funext fun i => funext fun j => by rw [q 17 i j (by unfold scr; omega), couM_k u 6 (k := 17) (by decide)]
  have hF2 : rcF (u 20 6) (u 17 6 0) = w 41 0 := by rw [h4]; exact F.2
  have st : ∀ k : Int, 11 ≤ k → k ≤ 14 → v k 0 0 = rN (u 20 6) 50 (k - 11) := fun k a b => by
    rw [q k 0 0 (by unfold scr; omega), couM_st u 6 (by omega)]
    unfold asN
    rw [if_neg (by omega)]
    unfold asHR
    rw [h4]
    rcases (show k = 11 ∨ k = 12 ∨ k = 13 ∨ k = 14 by omega) with rfl | rfl | rfl | rfl <;> rfl
  have mn : ∀ k i : Int, 1 ≤ k → k ≤ 4 → 0 ≤ i → i < w 41 0 → v k i 0 = rN (u 20 6) 50 (4 + 4 * i + (k - 1)) := fun k i a b i0 i1 => by
    rw [q k i 0 (by unfold scr; omega), couM_st u 6 (by omega)]
    unfold asN
    rw [if_pos ⟨⟨a, b⟩, i0, by rw [hF2]; exact i1, rfl⟩, h4]
  have m5 : ∀ k i : Int, (k = 5 ∨ k = 6 ∨ k = 7) → 0 ≤ i → i < w 41 0 → v k i 0 = if k = 6 then -9 else 0 := fun k i c i0 i1 => by
    rw [q k i 0 (by unfold scr; omega)]
    exact couM_567 u 6 c i0 (by rw [hF2]; exact i1)
  have v15 : v 15 0 0 = 8 := (q 15 0 0 (by unfold scr; omega)).trans (couM_15 u 6)
  refine ⟨hV, ⟨v10.symm, ?_, ?_, ?_, ?_, fun i i0 i1 => ?_⟩, ⟨?_, ?_, ?_, ?_, fun i i0 i1 => ?_⟩, by rw [v10]; exact hn.1, (q 16 0 0 (by unfold scr; omega)).trans (couM_160 u 6), fun b b0 b1 => (q 16 b 0 (by unfold scr; omega)).trans (couM_16b u 6 b0 b1), fun r hr => by rw [k17, k20]; exact h3 r hr, by rw [k17]; exact h4, ?_, ?_, ?_⟩
  · rw [st 11 (by decide) (by decide)]; exact R.1.1.symm
  · rw [st 12 (by decide) (by decide)]; exact R.1.2.1.symm
  · rw [st 13 (by decide) (by decide)]; exact R.1.2.2.1.symm
  · rw [st 14 (by decide) (by decide)]; exact R.1.2.2.2.symm
  · rw [v10] at i1
    rw [mn 1 i (by decide) (by decide) i0 i1, mn 2 i (by decide) (by decide) i0 i1, mn 3 i (by decide) (by decide) i0 i1, mn 4 i (by decide) (by decide) i0 i1]
    have := R.2 i i0 i1
    exact ⟨this.1.symm, this.2.1.symm, this.2.2.1.symm, this.2.2.2.symm⟩
  · rw [hw 0 (by decide) (by decide), v15]; rfl
  · rw [hw 1 (by decide) (by decide), if_neg (by decide), if_pos (by decide)]
    exact (sum_0 (by rw [v10]; omega) (fun i i0 i1 => by rw [v10] at i1; rw [m5 6 i (by decide) i0 i1, if_pos rfl, if_neg (fun c => c rfl)])).symm
  · rw [hw 2 (by decide) (by decide), if_neg (by decide), if_pos (by decide)]
    exact (sum_0 (by rw [v10]; omega) (fun i i0 i1 => by rw [v10] at i1; rw [m5 6 i (by decide) i0 i1]; rfl)).symm
  · rw [hw 3 (by decide) (by decide), if_neg (by decide), if_pos (by decide)]
    exact (sum_0 (by rw [v10]; omega) (fun i i0 i1 => by rw [v10] at i1; rw [m5 7 i (by decide) i0 i1]; rfl)).symm
  · rw [v10] at i1
    rw [hw (4 + i) (by omega) (by omega), hw (10 + i) (by omega) (by omega), m5 5 i (by decide) i0 i1, m5 6 i (by decide) i0 i1]
    refine ⟨?_, ?_⟩ <;> ((repeat' split) <;> first | rfl | omega)
  · rw [k20, k17, h4]; exact F.1
  · rw [k20, k17, hF2, v10]
  · have c := cou_cE (a := u) (b := v) (by rw [k20]) (by rw [k17])
    rw [hF2] at c
    rw [v10]
    refine cE_tr (cE_sy c) (fun k i j z => q k i j ?_)
    unfold scr; omega
theorem CP_xG {x u v : gX} (h : CP x u) (e : xG u v) : CP x v ∧ v 20 6 = u 20 6 := by
  have q : ∀ k i j : Int, ¬ scr k i → v k i j = u k i j := e.1
  have e17 : ∀ r : Int, v 17 r = u 17 r := fun r => funext fun j => q 17 r j (by unfold scr; omega)
  have e20 : ∀ r : Int, v 20 r = u 20 r := fun r => funext fun j => q 20 r j (by unfold scr; omega)
  exact ⟨⟨INV_xG h.1 e, fun r hr => by rw [e17, e20]; exact h.2.1 r hr, by rw [e17]; exact h.2.2⟩, e20 6⟩
theorem GI_5 {y : gY} {a0 a1 a2 a3 a4 : Int} (h0 : 0 ≤ a0 ∧ a0 < 6) (h1 : 0 ≤ a1 ∧ a1 < 3) (h2 : 0 ≤ a2 ∧ a2 < 10) (h3 : 0 ≤ a3 ∧ a3 < 10) (h4 : 0 ≤ a4 ∧ a4 < 6) : GI ((yU (yU (yU (yU (yU y 41 0 (1 + a0)) 41 1 (1 + a1)) 41 2 a2) 41 3 a3) 41 4 (1 + a4)) 41) := by
  unfold GI
  rw [yU_same, yU_j (by decide), yU_j (by decide), yU_j (by decide), yU_j (by decide), yU_same, yU_j (by decide), yU_j (by decide), yU_j (by decide), yU_same, yU_j (by decide), yU_j (by decide), yU_same, yU_j (by decide), yU_same]
  omega
theorem GI_42 {w : gY} {j v : Int} (h : GI (w 41)) : GI (yU w 42 j v 41) := by rw [yU_k (by decide)]; exact h
theorem GI_k {g : Int → Int} (h : GI g) {k : Int} (hk : 1 ≤ k ∧ k ≤ 4) : 0 ≤ 48 + g k ∧ 48 + g k ≤ 127 := by
  unfold GI at h
  rcases (show k = 1 ∨ k = 2 ∨ k = 3 ∨ k = 4 by omega) with rfl | rfl | rfl | rfl <;> omega
theorem vi_s {w : gY} {k v : Int} (h : ∀ j : Int, 0 ≤ j → j < k → w 42 j = if j = 0 then 8 else if j < 10 then 0 else -9) (hk : 0 ≤ k) (hv : v = if k = 0 then 8 else if k < 10 then 0 else -9) : ∀ j : Int, 0 ≤ j → j < k + 1 → yU w 42 k v 42 j = if j = 0 then 8 else if j < 10 then 0 else -9 := fun j j0 j1 => by
  rw [yU_at]
  by_cases c : j = k
  · rw [if_pos c, c]; exact hv
  · rw [if_neg c]; exact h j j0 (by omega)
def MNS (w : gY) (i b0 b1 b2 b3 : Int) (w1 : gY) : Prop := (w1 41 (5 + i) = b0 ∧ w1 41 (11 + i) = b1 ∧ w1 41 (17 + i) = b2 ∧ w1 41 (23 + i) = b3) ∧ (∀ k : Int, k ≠ 41 → w1 k = w k) ∧ (∀ j : Int, 0 ≤ j ∧ j ≤ 4 → w1 41 j = w 41 j) ∧ ∀ q : Int, 0 ≤ q → q < i → w1 41 (5 + q) = w 41 (5 + q) ∧ w1 41 (11 + q) = w 41 (11 + q) ∧ w1 41 (17 + q) = w 41 (17 + q) ∧ w1 41 (23 + q) = w 41 (23 + q)
theorem MNS_4 (w : gY) (i b0 b1 b2 b3 : Int) (hi : 0 ≤ i ∧ i < 6) : MNS w i b0 b1 b2 b3 (yU (yU (yU (yU w 41 (5 + i) b0) 41 (11 + i) b1) 41 (17 + i) b2) 41 (23 + i) b3) := by
  have e : ∀ j : Int, j ≠ 5 + i → j ≠ 11 + i → j ≠ 17 + i → j ≠ 23 + i → yU (yU (yU (yU w 41 (5 + i) b0) 41 (11 + i) b1) 41 (17 + i) b2) 41 (23 + i) b3 41 j = w 41 j := fun j a b c d => by rw [yU_j d, yU_j c, yU_j b, yU_j a]
  refine ⟨⟨?_, ?_, ?_, yU_same _ _ _ _⟩, fun k hk => by rw [yU_k hk, yU_k hk, yU_k hk, yU_k hk], fun j hj => e j (by omega) (by omega) (by omega) (by omega), fun q q0 q1 => ⟨e _ (by omega) (by omega) (by omega) (by omega), e _ (by omega) (by omega) (by omega) (by omega), e _ (by omega) (by omega) (by omega) (by omega), e _ (by omega) (by omega) (by omega) (by omega)⟩⟩
  · rw [yU_j (by omega), yU_j (by omega), yU_j (by omega), yU_same]
  · rw [yU_j (by omega), yU_j (by omega), yU_same]
  · rw [yU_j (by omega), yU_same]
theorem GI_m {w w1 : gY} {i b0 b1 b2 b3 : Int} (h : GI (w 41)) (m : MNS w i b0 b1 b2 b3 w1) : GI (w1 41) := by
  unfold GI
  rw [m.2.2.1 0 (by decide), m.2.2.1 1 (by decide), m.2.2.1 2 (by decide), m.2.2.1 3 (by decide), m.2.2.1 4 (by decide)]
  exact h
theorem GM_s {w w1 : gY} {i b0 b1 b2 b3 : Int} (h : GM (w 41) i) (m : MNS w i b0 b1 b2 b3 w1) (h0 : 0 ≤ i) (h1 : 0 ≤ b1 ∧ b1 ≤ 1) (hb0 : 0 ≤ b0 ∧ b0 ≤ 5) (h2 : 0 ≤ b2 ∧ b2 ≤ 9) (h3 : 0 ≤ b3 ∧ b3 ≤ 9) : GM (w1 41) (i + 1) := fun q q0 q1 => by
  by_cases c : q = i
  · subst c
    rw [m.1.1, m.1.2.1, m.1.2.2.1, m.1.2.2.2]
    exact ⟨hb0, h1, h2, h3⟩
  · have z := m.2.2.2 q q0 (by omega)
    rw [z.1, z.2.1, z.2.2.1, z.2.2.2]
    exact h q q0 (by omega)
theorem TXP_s {u u1 u2 u3 u4 : gX} {w w1 : gY} {i b0 b1 b2 b3 : Int} (h : TXP (u 20 6) (w 41) i) (m : MNS w i b0 b1 b2 b3 w1) (h0 : 0 ≤ i) (h6 : i < 6) (e1 : ∀ j : Int, u1 20 6 j = if j = (6 + 5 * i) then ltrZ b0 else u 20 6 j) (e2 : ∀ j : Int, u2 20 6 j = if j = (7 + 5 * i) then (48 + b1) else u1 20 6 j) (e3 : ∀ j : Int, u3 20 6 j = if j = (8 + 5 * i) then (48 + b2) else u2 20 6 j) (e4 : ∀ j : Int, u4 20 6 j = if j = (9 + 5 * i) then (48 + b3) else u3 20 6 j) : TXP (u4 20 6) (w1 41) (i + 1) := by
  have o : ∀ j : Int, j < 6 + 5 * i ∨ 9 + 5 * i < j → u4 20 6 j = u 20 6 j := fun j hj => by rw [e4, if_neg (by omega), e3, if_neg (by omega), e2, if_neg (by omega), e1, if_neg (by omega)]
  refine ⟨(o 0 (by omega)).trans h.1, fun k k0 k1 => ?_, fun q q0 q1 => ?_, fun j j0 j1 => (o j (by omega)).trans (h.2.2.2 j (by omega) j1)⟩
  · rw [o k (by omega), m.2.2.1 k (by omega)]; exact h.2.1 k k0 k1
  · by_cases c : q = i
    · subst c
      rw [m.1.1, m.1.2.1, m.1.2.2.1, m.1.2.2.2]
      refine ⟨(o _ (by omega)).trans (h.2.2.2 _ (by omega) (by omega)), ?_, ?_, ?_, ?_⟩
      · rw [e4, if_neg (by omega), e3, if_neg (by omega), e2, if_neg (by omega), e1, if_pos rfl]
      · rw [e4, if_neg (by omega), e3, if_neg (by omega), e2, if_pos rfl]
      · rw [e4, if_neg (by omega), e3, if_pos rfl]
      · rw [e4, if_pos rfl]
    · have z := m.2.2.2 q q0 (by omega)
      rw [z.1, z.2.1, z.2.2.1, z.2.2.2, o _ (by omega), o _ (by omega), o _ (by omega), o _ (by omega), o _ (by omega)]
      exact h.2.2.1 q q0 (by omega)
