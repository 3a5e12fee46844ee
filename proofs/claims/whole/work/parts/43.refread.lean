/-! the reference reads: y0 the memory ahead, t the text, n its size, p the place, m the men -/
def YS (y0 : gY) (t n : Int) (y : gY) (p m : Int) : Prop := (∀ k : Int, k ≤ 9 ∨ (14 ≤ k ∧ k ≠ 50 ∧ k ≠ 51) → y k = y0 k) ∧ y 10 0 = 60 * t ∧ y 12 0 = n ∧ y 11 0 = p ∧ y 13 0 = m
theorem YS_p {y0 y : gY} {t n p m : Int} (h : YS y0 t n y p m) (q : Int) : YS y0 t n (yU y 11 0 q) q m := ⟨fun k c => by rw [yU_k (by omega)]; exact h.1 k c, h.2.1, h.2.2.1, yU_same _ _ _ _, h.2.2.2.2⟩
theorem YS_eq {y0 y : gY} {t n p m p' m' : Int} (h : YS y0 t n y p m) (e : p = p') (e2 : m = m') : YS y0 t n y p' m' := by subst e; subst e2; exact h
theorem YS_n {y0 y : gY} {t n p m : Int} (h : YS y0 t n y p m) {k : Int} (hk : k = 50 ∨ k = 51) (j v : Int) : YS y0 t n (yU y k j v) p m := ⟨fun q c => by rw [yU_k (by omega)]; exact h.1 q c, by rw [yU_k (by omega)]; exact h.2.1, by rw [yU_k (by omega)]; exact h.2.2.1, by rw [yU_k (by omega)]; exact h.2.2.2.1, by rw [yU_k (by omega)]; exact h.2.2.2.2⟩
theorem YS_m {y0 y : gY} {t n p m : Int} (h : YS y0 t n y p m) (v : Int) : YS y0 t n (yU y 13 0 v) p v := ⟨fun k c => by rw [yU_k (by omega)]; exact h.1 k c, h.2.1, h.2.2.1, h.2.2.2.1, yU_same _ _ _ _⟩
theorem yU_self (y : gY) (k j : Int) : yU y k j (y k j) = y := by
  funext a b
  unfold yU
  split
  · rename_i q; rw [q.1, q.2]
  · rfl
theorem yU_yU (y : gY) (k j v w : Int) : yU (yU y k j v) k j w = yU y k j w := by
  funext a b
  unfold yU
  split <;> rfl
theorem YS_11 {y0 y : gY} {t n p m : Int} (h : YS y0 t n y p m) : y = yU y 11 0 p := by
  have := (yU_self y 11 0).symm
  rw [h.2.2.2.1] at this
  exact this
set_option maxRecDepth 20000 in
theorem c_X8_here (l : Launch) (D : gD) (ad : gA) (x : gX) (y : gY) (y0 : gY) (t : Int) (T : Int → Int) (n p m : Int) (ht : 0 ≤ t ∧ t < 4) (hn : 0 ≤ n ∧ n ≤ 60) (hT : ∀ j : Int, 0 ≤ j → j < n → y0 48 (60 * t + j) = T j) (hb : ∀ j : Int, -128 ≤ T j ∧ T j ≤ 127) (hY : YS y0 t n y p m) (hp : 0 ≤ p ∧ p < n) : gC l D ad 0 yX8_here cX8_here 1 (some .int) [.ref (ad 8 (0))] x y (pI (T p) (x) (y)) := by
  refine g_met RX8 rfl (by decide +kernel) [(0, .ref (ad 8 (0)))] rfl (Nat.le_of_ble_eq_true rfl) (fun Θ F hR => ?_)
  refine g_aload_n F dX8_here_0 rfl 0 rfl ?_
  refine gg_Model_bytes F fk_X8_34 dX8_here_1 ?_
  refine g_aload_n F dX8_here_4 rfl 0 rfl ?_
  refine gg_Model_from F fk_X8_106 dX8_here_5 ?_
  refine g_topi (b := 60 * t) (hY.2.1) ?_
  refine g_aload_n F dX8_here_8 rfl 0 rfl ?_
  refine gg_Model_place F fk_X8_109 dX8_here_9 ?_
  refine g_topi (b := p) (hY.2.2.2.1) ?_
  refine g_iadd F dX8_here_12 ?_
  refine ga_48 F (by omega) dX8_here_13 ?_
  refine g_topi (b := T p) (by rw [hY.1 48 (by decide)]; exact hT p (by omega) (by omega)) ?_
  exact g_ireturn F hR dX8_here_14 (pI_i (by rfl) rfl rfl)

set_option maxRecDepth 20000 in
theorem c_X8_skip (l : Launch) (D : gD) (ad : gA) (x : gX) (y : gY) (y0 : gY) (t : Int) (T : Int → Int) (n p m : Int) (ht : 0 ≤ t ∧ t < 4) (hn : 0 ≤ n ∧ n ≤ 60) (hT : ∀ j : Int, 0 ≤ j → j < n → y0 48 (60 * t + j) = T j) (hb : ∀ j : Int, -128 ≤ T j ∧ T j ≤ 127) (hY : YS y0 t n y p m) (hp : 0 ≤ p ∧ p ≤ 100) : gC l D ad 1 yX8_skip cX8_skip 1 none [.ref (ad 8 (0))] x y (pV (x) (yU y 11 0 (sk T n p))) := by
  refine g_met RX8 rfl (by decide +kernel) [(0, .ref (ad 8 (0)))] rfl (Nat.le_of_ble_eq_true rfl) (fun Θ F hR => ?_)
  have L0 : ∀ (N : Nat) (q : Int), 0 ≤ q ∧ q ≤ 100 → sk T n p = sk T n q → (n - q).toNat < N → gW Θ l D ad 1 0 [(0, .ref (ad 8 (0)))] [] x (yU y 11 0 q) := by
    intro N
    induction N with
    | zero => intro q hj ha hFu; omega
    | succ N ih0 =>
      intro q hj ha hFu
      refine g_aload_n F dX8_skip_0 rfl 0 rfl ?_
      refine gg_Model_place F fk_X8_109 dX8_skip_1 ?_
      refine g_topi (b := q) (yU_same _ _ _ _) ?_
      refine g_aload_n F dX8_skip_4 rfl 0 rfl ?_
      refine gg_Model_end F fk_X8_112 dX8_skip_5 ?_
      refine g_topi (b := n) (hY.2.2.1) ?_
      refine g_icmp_ge 33 F dX8_skip_8 (by omega) (by omega) rfl (fun c_1 => ?_) (fun c_1 => ?_)
      · skip
        exact g_vreturn F hR dX8_skip_33 (pV_i rfl (by rw [ha, sk_stop (by omega)]))
      · skip
        have hq := hb q
        refine g_aload_n F dX8_skip_11 rfl 0 rfl ?_
        refine g_callV 0 F (As := []) (st := []) (c_X8_here l D ad x (yU y 11 0 q) y0 t T n (q) m (by omega) (by omega) (hT) (hb) (YS_p hY q) (by omega)) (gR_8) rfl mk_X8_115 ki_X8_here kc_X8_here (by decide +kernel) rfl (by decide) dX8_skip_12 rfl (Nat.le_of_ble_eq_true rfl) (pI_k ?_)
        refine g_bipush F dX8_skip_15 (32) (by decide) ?_
        refine g_icmp_ne 33 F dX8_skip_17 (by omega) (by decide) rfl (fun c_2 => ?_) (fun c_2 => ?_)
        · skip
          exact g_vreturn F hR dX8_skip_33 (pV_i rfl (by rw [ha, sk_stop (by omega)]))
        · skip
          refine g_aload_n F dX8_skip_20 rfl 0 rfl ?_
          refine g_dup F dX8_skip_21 rfl ?_
          refine gg_Model_place F fk_X8_109 dX8_skip_22 ?_
          refine g_topi (b := q) (yU_same _ _ _ _) ?_
          refine g_iconst F dX8_skip_25 (1) (by decide) ?_
          refine g_iadd F dX8_skip_26 ?_
          refine gp_Model_place F fk_X8_109 dX8_skip_27 ?_
          refine g_goto F 0 dX8_skip_30 rfl ?_
          exact gW_eq (ih0 (q + 1) (by omega) (ha.trans (sk_go (by omega) (by omega))) (by omega)) rfl rfl rfl (rfl) (by rw [yU_yU])
  exact gW_eq (L0 _ (p) (by omega) (rfl) (Nat.lt_succ_self _)) rfl rfl rfl (rfl) (YS_11 hY)

set_option maxRecDepth 20000 in
theorem c_X8_isFigure (l : Launch) (D : gD) (ad : gA) (x : gX) (y : gY) (y0 : gY) (t : Int) (T : Int → Int) (n p m : Int) (lo hi : Int) (ht : 0 ≤ t ∧ t < 4) (hn : 0 ≤ n ∧ n ≤ 60) (hT : ∀ j : Int, 0 ≤ j → j < n → y0 48 (60 * t + j) = T j) (hb : ∀ j : Int, -128 ≤ T j ∧ T j ≤ 127) (hY : YS y0 t n y p m) (hp : 0 ≤ p ∧ p ≤ 100) (hl : (0 ≤ lo ∧ lo ≤ 9) ∧ 0 ≤ hi ∧ hi ≤ 9) : gC l D ad 1 yX8_isFigure cX8_isFigure 3 (some .boolean) [.ref (ad 8 (0)), .int (J (lo)), .int (J (hi))] x y (pB (fgP T n p lo hi) (x) (y)) := by
  refine g_met RX8 rfl (by decide +kernel) [(0, .ref (ad 8 (0))), (1, .int (J (lo))), (2, .int (J (hi)))] rfl (Nat.le_of_ble_eq_true rfl) (fun Θ F hR => ?_)
  refine g_aload_n F dX8_isFigure_0 rfl 0 rfl ?_
  refine gg_Model_place F fk_X8_109 dX8_isFigure_1 ?_
  refine g_topi (b := p) (hY.2.2.2.1) ?_
  refine g_aload_n F dX8_isFigure_4 rfl 0 rfl ?_
  refine gg_Model_end F fk_X8_112 dX8_isFigure_5 ?_
  refine g_topi (b := n) (hY.2.2.1) ?_
  refine g_icmp_ge 36 F dX8_isFigure_8 (by omega) (by omega) rfl (fun c_1 => ?_) (fun c_1 => ?_)
  · skip
    refine g_iconst F dX8_isFigure_36 (0) (by decide) ?_
    exact g_zreturn F hR dX8_isFigure_37 (by omega) (pB_i (by (repeat' split) <;> omega) rfl rfl)
  · skip
    refine g_aload_n F dX8_isFigure_11 rfl 0 rfl ?_
    refine g_callV 0 F (As := []) (st := []) (c_X8_here l D ad x y y0 t T n p m (by omega) (by omega) (hT) (hb) (hY) (by omega)) (gR_8) rfl mk_X8_115 ki_X8_here kc_X8_here (by decide +kernel) rfl (by decide) dX8_isFigure_12 rfl (Nat.le_of_ble_eq_true rfl) (pI_k ?_)
    have hq := hb p
    refine g_i2l F dX8_isFigure_15 (by omega) ?_
    refine g_bipush F dX8_isFigure_16 (48) (by decide) ?_
    refine g_iload_n F dX8_isFigure_18 rfl 1 rfl ?_
    refine g_iadd F dX8_isFigure_19 ?_
    refine g_i2l F dX8_isFigure_20 (by omega) ?_
    refine g_bipush F dX8_isFigure_21 (48) (by decide) ?_
    refine g_iload_n F dX8_isFigure_23 rfl 2 rfl ?_
    refine g_iadd F dX8_isFigure_24 ?_
    refine g_i2l F dX8_isFigure_25 (by omega) ?_
    refine g_callS 3 F (As := [.long (Lg (T p)), .long (Lg ((48) + (lo))), .long (Lg ((48) + (hi)))]) (st := []) (c_X8_in l D ad x y (T p) ((48) + (lo)) ((48) + (hi)) (by omega) (by omega) (by omega)) rfl mk_X8_74 ki_X8_in kc_X8_in (by decide +kernel) rfl (by decide) dX8_isFigure_26 rfl (Nat.le_of_ble_eq_true rfl) (pB_k ?_)
    refine g_ifb_eq 36 F dX8_isFigure_29 rfl (fun c_2 => ?_) (fun c_2 => ?_)
    · skip
      refine g_iconst F dX8_isFigure_36 (0) (by decide) ?_
      exact g_zreturn F hR dX8_isFigure_37 (by omega) (pB_i (by (repeat' split) <;> omega) rfl rfl)
    · skip
      refine g_iconst F dX8_isFigure_32 (1) (by decide) ?_
      refine g_goto F 37 dX8_isFigure_33 rfl ?_
      exact g_zreturn F hR dX8_isFigure_37 (by omega) (pB_i (by (repeat' split) <;> omega) rfl rfl)

set_option maxRecDepth 20000 in
theorem c_X8_figure (l : Launch) (D : gD) (ad : gA) (x : gX) (y : gY) (y0 : gY) (t : Int) (T : Int → Int) (n p m : Int) (lo hi : Int) (ht : 0 ≤ t ∧ t < 4) (hn : 0 ≤ n ∧ n ≤ 60) (hT : ∀ j : Int, 0 ≤ j → j < n → y0 48 (60 * t + j) = T j) (hb : ∀ j : Int, -128 ≤ T j ∧ T j ≤ 127) (hY : YS y0 t n y p m) (hp : 0 ≤ p ∧ p ≤ 100) (hl : (0 ≤ lo ∧ lo ≤ 9) ∧ 0 ≤ hi ∧ hi ≤ 9) : gC l D ad 2 yX8_figure cX8_figure 3 (some .int) [.ref (ad 8 (0)), .int (J (lo)), .int (J (hi))] x y (pH (.int (J (if fgP T n p lo hi then T p - 48 else -9))) (x) (fun w => (fgP T n p lo hi → w = yU y 11 0 (p + 1)) ∧ (¬ fgP T n p lo hi → w = y))) := by
  refine g_met RX8 rfl (by decide +kernel) [(0, .ref (ad 8 (0))), (1, .int (J (lo))), (2, .int (J (hi)))] rfl (Nat.le_of_ble_eq_true rfl) (fun Θ F hR => ?_)
  refine g_aload_n F dX8_figure_0 rfl 0 rfl ?_
  refine g_iload_n F dX8_figure_1 rfl 1 rfl ?_
  refine g_iload_n F dX8_figure_2 rfl 2 rfl ?_
  refine g_callV 2 F (As := [.int (J (lo)), .int (J (hi))]) (st := []) (c_X8_isFigure l D ad x y y0 t T n p m (lo) (hi) (by omega) (by omega) (hT) (hb) (hY) (by omega) (by omega)) (gR_8) rfl mk_X8_119 ki_X8_isFigure kc_X8_isFigure (by decide +kernel) rfl (by decide) dX8_figure_3 rfl (Nat.le_of_ble_eq_true rfl) (pB_k ?_)
  refine g_ifb_ne 12 F dX8_figure_6 rfl (fun c_1 => ?_) (fun c_1 => ?_)
  · skip
    refine g_aload_n F dX8_figure_12 rfl 0 rfl ?_
    refine g_dup F dX8_figure_13 rfl ?_
    refine gg_Model_place F fk_X8_109 dX8_figure_14 ?_
    refine g_topi (b := p) (hY.2.2.2.1) ?_
    refine g_iconst F dX8_figure_17 (1) (by decide) ?_
    refine g_iadd F dX8_figure_18 ?_
    refine gp_Model_place F fk_X8_109 dX8_figure_19 ?_
    have hq := hb p
    refine g_aload_n F dX8_figure_22 rfl 0 rfl ?_
    refine gg_Model_bytes F fk_X8_34 dX8_figure_23 ?_
    refine g_aload_n F dX8_figure_26 rfl 0 rfl ?_
    refine gg_Model_from F fk_X8_106 dX8_figure_27 ?_
    refine g_topi (b := y 10 (0)) (by simp [yU]) ?_
    refine g_topi (b := 60 * t) (hY.2.1) ?_
    refine g_aload_n F dX8_figure_30 rfl 0 rfl ?_
    refine gg_Model_place F fk_X8_109 dX8_figure_31 ?_
    refine g_topi (b := (p) + (1)) (by simp [yU]) ?_
    refine g_iadd F dX8_figure_34 ?_
    refine g_iconst F dX8_figure_35 (1) (by decide) ?_
    refine g_isub F dX8_figure_36 ?_
    refine ga_48 F (by omega) dX8_figure_37 ?_
    refine g_topi (b := y 48 (((60 * t) + ((p) + (1))) - (1))) (by simp [yU]) ?_
    refine g_topi (b := T p) (by rw [hY.1 48 (by decide), show (60 * t) + ((p) + (1)) - (1) = 60 * t + p by omega]; exact hT p (by omega) (by omega)) ?_
    refine g_bipush F dX8_figure_38 (48) (by decide) ?_
    refine g_isub F dX8_figure_40 ?_
    exact g_ireturn F hR dX8_figure_41 (pH_z (by first | (rw [if_pos (by omega)]; done) | (rw [if_neg (by omega)]; done)) (by exact ⟨fun q => by first | rfl | (exfalso; omega), fun q => by first | rfl | (exfalso; omega)⟩) rfl)
  · skip
    refine g_bipush F dX8_figure_9 (-9) (by decide) ?_
    exact g_ireturn F hR dX8_figure_11 (pH_z (by first | (rw [if_pos (by omega)]; done) | (rw [if_neg (by omega)]; done)) (by exact ⟨fun q => by first | rfl | (exfalso; omega), fun q => by first | rfl | (exfalso; omega)⟩) rfl)
/-- the iron's figures, k of them being well -/
def FGK (T : Int → Int) (n q k : Int) : Bool := decide ((k = 0 ∧ fgP T n (q + 1 + k) 1 3) ∨ (k = 3 ∧ fgP T n (q + 1 + k) 1 6) ∨ ((k = 1 ∨ k = 2) ∧ fgP T n (q + 1 + k) 0 9))
theorem FGK_i {T : Int → Int} {n q k : Int} : FGK T n q k = true ↔ ((k = 0 ∧ fgP T n (q + 1 + k) 1 3) ∨ (k = 3 ∧ fgP T n (q + 1 + k) 1 6) ∨ ((k = 1 ∨ k = 2) ∧ fgP T n (q + 1 + k) 0 9)) := by unfold FGK; rw [decide_eq_true_iff]
def irK (T : Int → Int) (n q k : Int) : Prop := (q < n ∧ T q = 105) ∧ (1 ≤ k → fgP T n (q + 1) 1 3) ∧ (2 ≤ k → fgP T n (q + 2) 0 9) ∧ (3 ≤ k → fgP T n (q + 3) 0 9) ∧ (4 ≤ k → fgP T n (q + 4) 1 6)
theorem irK_s {T : Int → Int} {n q k : Int} (h : irK T n q k) (hk : 0 ≤ k ∧ k < 4) (hf : (FGK T n q k = true)) : irK T n q (k + 1) := by
  rw [FGK_i] at hf
  rcases (show k = 0 ∨ k = 1 ∨ k = 2 ∨ k = 3 by omega) with rfl | rfl | rfl | rfl
  · rw [show q + 1 + 0 = q + 1 by omega] at hf; unfold irK at h ⊢; omega
  · rw [show q + 1 + 1 = q + 2 by omega] at hf; unfold irK at h ⊢; omega
  · rw [show q + 1 + 2 = q + 3 by omega] at hf; unfold irK at h ⊢; omega
  · rw [show q + 1 + 3 = q + 4 by omega] at hf; unfold irK at h ⊢; omega
theorem irK_f {T : Int → Int} {n q k : Int} (h : irK T n q k) (hk : 0 ≤ k ∧ k < 4) (hf : ¬ (FGK T n q k = true)) : irP T n q = q + 1 + k := by
  rw [FGK_i] at hf
  rcases (show k = 0 ∨ k = 1 ∨ k = 2 ∨ k = 3 by omega) with rfl | rfl | rfl | rfl
  · rw [show q + 1 + 0 = q + 1 by omega] at hf; unfold irK at h; unfold irP; (repeat' split) <;> omega
  · rw [show q + 1 + 1 = q + 2 by omega] at hf; unfold irK at h; unfold irP; (repeat' split) <;> omega
  · rw [show q + 1 + 2 = q + 3 by omega] at hf; unfold irK at h; unfold irP; (repeat' split) <;> omega
  · rw [show q + 1 + 3 = q + 4 by omega] at hf; unfold irK at h; unfold irP; (repeat' split) <;> omega
theorem irK_4 {T : Int → Int} {n q : Int} (h : irK T n q 4) : irP T n q = q + 5 := by unfold irK at h; unfold irP; (repeat' split) <;> omega
def RK (y0 : gY) (t : Int) (T : Int → Int) (n q : Int) (w : gY) (i k : Int) : Prop := (i = 1 ∧ YS y0 t n w (q + 1 + k) 0 ∧ irK T n q k ∧ ∀ j : Int, 0 ≤ j → j < k → w 50 j = T (q + 1 + j) - 48) ∨ (i = 0 ∧ YS y0 t n w (irP T n q) 0 ∧ irP T n q ≠ q + 5)
theorem RK_w {y0 : gY} {t : Int} {T : Int → Int} {n q : Int} {w : gY} {i k : Int} (h : RK y0 t T n q w i k) : i = 0 ∨ i = 1 := by rcases h with h | h <;> omega
theorem RK_1 {y0 : gY} {t : Int} {T : Int → Int} {n q : Int} {w : gY} {i k : Int} (h : RK y0 t T n q w i k) (hi : i ≠ 0) : YS y0 t n w (q + 1 + k) 0 ∧ irK T n q k ∧ ∀ j : Int, 0 ≤ j → j < k → w 50 j = T (q + 1 + j) - 48 := by
  rcases h with h | h
  · exact h.2
  · omega
theorem RK_0 {y0 : gY} {t : Int} {T : Int → Int} {n q : Int} {w : gY} {i k : Int} (h : RK y0 t T n q w i k) (hi : i = 0) : YS y0 t n w (irP T n q) 0 ∧ irP T n q ≠ q + 5 := by
  rcases h with h | h
  · omega
  · exact h.2
theorem RK_e {y0 : gY} {t : Int} {T : Int → Int} {n q : Int} {w : gY} {i k : Int} (h : RK y0 t T n q w i k) (hk : i = 0 ∨ k = 4) : (i = if irP T n q = q + 5 then 1 else 0) ∧ YS y0 t n w (irP T n q) 0 ∧ (irP T n q = q + 5 → ∀ j : Int, 0 ≤ j → j < 4 → w 50 j = T (q + 1 + j) - 48) := by
  rcases h with h | h
  · have e : k = 4 := by omega
    subst e
    have e2 := irK_4 h.2.2.1
    rw [e2, if_pos rfl]
    exact ⟨h.1, YS_eq h.2.1 (by omega) rfl, fun _ => h.2.2.2⟩
  · rw [if_neg h.2.2]
    exact ⟨h.1, h.2.1, fun q => absurd q h.2.2⟩
theorem RK_s {y0 : gY} {t : Int} {T : Int → Int} {n q : Int} {w v : gY} {k : Int} (h : YS y0 t n w (q + 1 + k) 0 ∧ irK T n q k ∧ ∀ j : Int, 0 ≤ j → j < k → w 50 j = T (q + 1 + j) - 48) (hk : 0 ≤ k ∧ k < 4) (hv : ((FGK T n q k = true) → v = yU w 11 0 (q + 1 + k + 1)) ∧ (¬ (FGK T n q k = true) → v = w)) (hf : (FGK T n q k = true)) : RK y0 t T n q (yU v 50 (k) (if (FGK T n q k = true) then T (q + 1 + k) - 48 else -9)) 1 (k + 1) := by
  obtain ⟨h1, h2, h3⟩ := h
  rw [hv.1 hf, if_pos hf]
  refine Or.inl ⟨rfl, YS_eq (YS_n (YS_p h1 _) (Or.inl rfl) _ _) (by omega) rfl, irK_s h2 hk hf, fun j j0 j1 => ?_⟩
  rw [yU_at]
  split
  · rename_i e; rw [e]
  · exact h3 j j0 (by omega)
theorem RK_f {y0 : gY} {t : Int} {T : Int → Int} {n q : Int} {w v : gY} {k : Int} (h : YS y0 t n w (q + 1 + k) 0 ∧ irK T n q k ∧ ∀ j : Int, 0 ≤ j → j < k → w 50 j = T (q + 1 + j) - 48) (hk : 0 ≤ k ∧ k < 4) (hv : ((FGK T n q k = true) → v = yU w 11 0 (q + 1 + k + 1)) ∧ (¬ (FGK T n q k = true) → v = w)) (hf : ¬ (FGK T n q k = true)) : RK y0 t T n q (yU v 50 (k) (if (FGK T n q k = true) then T (q + 1 + k) - 48 else -9)) 0 (k + 1) := by
  obtain ⟨h1, h2, h3⟩ := h
  rw [hv.2 hf]
  have e := irK_f h2 hk hf
  exact Or.inr ⟨rfl, YS_eq (YS_n h1 (Or.inl rfl) _ _) e.symm rfl, by omega⟩
/-- a man's figures -/
def FGM (T : Int → Int) (n p k : Int) : Bool := decide ((k = 1 ∧ fgP T n (p + k) 0 1) ∨ ((k = 2 ∨ k = 3) ∧ fgP T n (p + k) 0 9))
theorem FGM_i {T : Int → Int} {n p k : Int} : FGM T n p k = true ↔ ((k = 1 ∧ fgP T n (p + k) 0 1) ∨ ((k = 2 ∨ k = 3) ∧ fgP T n (p + k) 0 9)) := by unfold FGM; rw [decide_eq_true_iff]
def mnK (T : Int → Int) (n p k : Int) : Prop := kdO (T p) ≠ -9 ∧ (2 ≤ k → fgP T n (p + 1) 0 1) ∧ (3 ≤ k → fgP T n (p + 2) 0 9) ∧ (4 ≤ k → fgP T n (p + 3) 0 9)
theorem mnK_s {T : Int → Int} {n p k : Int} (h : mnK T n p k) (hk : 1 ≤ k ∧ k < 4) (hf : (FGM T n p k = true)) : mnK T n p (k + 1) := by
  rw [FGM_i] at hf
  rcases (show k = 1 ∨ k = 2 ∨ k = 3 by omega) with rfl | rfl | rfl <;> (unfold mnK at h ⊢; omega)
theorem mnK_f {T : Int → Int} {n p k : Int} (h : mnK T n p k) (hk : 1 ≤ k ∧ k < 4) (hf : ¬ (FGM T n p k = true)) : mnP T n p = p + k := by
  rw [FGM_i] at hf
  rcases (show k = 1 ∨ k = 2 ∨ k = 3 by omega) with rfl | rfl | rfl <;> (unfold mnK at h; unfold mnP; (repeat' split) <;> omega)
theorem mnK_4 {T : Int → Int} {n p : Int} (h : mnK T n p 4) : mnP T n p = p + 4 := by unfold mnK at h; unfold mnP; (repeat' split) <;> omega
/-- of one man: his numbers from place 4 m of the row on -/
def NM (T : Int → Int) (y : gY) (m p : Int) (w : gY) (k : Int) : Prop := w 50 = y 50 ∧ (0 < k → w 51 (4 * m) = kdO (T p)) ∧ (∀ j : Int, 1 ≤ j → j < k → w 51 (4 * m + j) = T (p + j) - 48) ∧ ∀ j : Int, j < 4 * m → w 51 j = y 51 j
def MK (y0 y : gY) (t : Int) (T : Int → Int) (n p m : Int) (w : gY) (i k : Int) : Prop := (i = 1 ∧ YS y0 t n w (p + k) m ∧ mnK T n p k ∧ NM T y m p w k) ∨ (i = 0 ∧ YS y0 t n w (mnP T n p) m ∧ mnP T n p ≠ p + 4)
theorem MK_w {y0 y : gY} {t : Int} {T : Int → Int} {n p m : Int} {w : gY} {i k : Int} (h : MK y0 y t T n p m w i k) : i = 0 ∨ i = 1 := by rcases h with h | h <;> omega
theorem MK_1 {y0 y : gY} {t : Int} {T : Int → Int} {n p m : Int} {w : gY} {i k : Int} (h : MK y0 y t T n p m w i k) (hi : i ≠ 0) : YS y0 t n w (p + k) m ∧ mnK T n p k ∧ NM T y m p w k := by
  rcases h with h | h
  · exact h.2
  · omega
theorem MK_0 {y0 y : gY} {t : Int} {T : Int → Int} {n p m : Int} {w : gY} {i k : Int} (h : MK y0 y t T n p m w i k) (hi : i = 0) : YS y0 t n w (mnP T n p) m ∧ mnP T n p ≠ p + 4 := by
  rcases h with h | h
  · omega
  · exact h.2
theorem MK_e {y0 y : gY} {t : Int} {T : Int → Int} {n p m : Int} {w : gY} {i k : Int} (h : MK y0 y t T n p m w i k) (hk : i = 0 ∨ k = 4) : (i = if mnP T n p = p + 4 then 1 else 0) ∧ YS y0 t n w (mnP T n p) m ∧ (mnP T n p = p + 4 → NM T y m p w 4) := by
  rcases h with h | h
  · have e : k = 4 := by omega
    subst e
    have e2 := mnK_4 h.2.2.1
    rw [e2, if_pos rfl]
    exact ⟨h.1, h.2.1, fun _ => h.2.2.2⟩
  · rw [if_neg h.2.2]
    exact ⟨h.1, h.2.1, fun q => absurd q h.2.2⟩
theorem NM_13 {T : Int → Int} {y w : gY} {m p k v : Int} (h : NM T y m p w k) : NM T y m p (yU w 13 0 v) k := ⟨by rw [yU_k (by decide)]; exact h.1, by rw [yU_k (by decide)]; exact h.2.1, by rw [yU_k (by decide)]; exact h.2.2.1, by rw [yU_k (by decide)]; exact h.2.2.2⟩
theorem MK_13 {y0 y : gY} {t : Int} {T : Int → Int} {n p m : Int} {w : gY} {i k : Int} (h : MK y0 y t T n p m w i k) : w 13 0 = m := by rcases h with h | h <;> exact h.2.1.2.2.2.2
theorem MK_s {y0 y : gY} {t : Int} {T : Int → Int} {n p m : Int} {w v : gY} {k : Int} (h : YS y0 t n w (p + k) m ∧ mnK T n p k ∧ NM T y m p w k) (hk : 1 ≤ k ∧ k < 4) (hv : ((FGM T n p k = true) → v = yU w 11 0 (p + k + 1)) ∧ (¬ (FGM T n p k = true) → v = w)) (hf : (FGM T n p k = true)) : MK y0 y t T n p m (yU v 51 ((4 * m) + (k)) (if (FGM T n p k = true) then T (p + k) - 48 else -9)) 1 (k + 1) := by
  obtain ⟨h1, h2, h3, h4, h5, h6⟩ := h
  rw [hv.1 hf, if_pos hf]
  refine Or.inl ⟨rfl, YS_eq (YS_n (YS_p h1 _) (Or.inr rfl) _ _) (by omega) rfl, mnK_s h2 hk hf, ?_, fun _ => ?_, fun j j0 j1 => ?_, fun j j1 => ?_⟩
  · rw [yU_k (by decide), yU_k (by decide)]; exact h3
  · rw [yU_j (by omega), yU_k (by decide)]; exact h4 (by omega)
  · rw [yU_at]
    split
    · rename_i e; rw [show j = k by omega]
    · rw [yU_k (by decide)]; exact h5 j j0 (by omega)
  · rw [yU_j (by omega), yU_k (by decide)]; exact h6 j j1
theorem MK_f {y0 y : gY} {t : Int} {T : Int → Int} {n p m : Int} {w v : gY} {k : Int} (h : YS y0 t n w (p + k) m ∧ mnK T n p k ∧ NM T y m p w k) (hk : 1 ≤ k ∧ k < 4) (hv : ((FGM T n p k = true) → v = yU w 11 0 (p + k + 1)) ∧ (¬ (FGM T n p k = true) → v = w)) (hf : ¬ (FGM T n p k = true)) : MK y0 y t T n p m (yU v 51 ((4 * m) + (k)) (if (FGM T n p k = true) then T (p + k) - 48 else -9)) 0 (k + 1) := by
  obtain ⟨h1, h2, -⟩ := h
  rw [hv.2 hf]
  have e := mnK_f h2 hk hf
  exact Or.inr ⟨rfl, YS_eq (YS_n h1 (Or.inr rfl) _ _) e.symm rfl, by omega⟩
theorem mn_no {T : Int → Int} {n p : Int} (h : kdO (T p) = -9) : mnP T n p = p := by unfold mnP; rw [if_pos h]
set_option maxHeartbeats 2000000 in
set_option maxRecDepth 20000 in
theorem c_X8_readsIron (l : Launch) (D : gD) (ad : gA) (x : gX) (y : gY) (y0 : gY) (t : Int) (T : Int → Int) (n : Int) (ht : 0 ≤ t ∧ t < 4) (hn : 0 ≤ n ∧ n ≤ 60) (hT : ∀ j : Int, 0 ≤ j → j < n → y0 48 (60 * t + j) = T j) (hb : ∀ j : Int, -128 ≤ T j ∧ T j ≤ 127) (hY : YS y0 t n y 0 0) : gC l D ad 3 yX8_readsIron cX8_readsIron 3 (some .boolean) [.ref (ad 8 (0))] x y (pH (.int (J (if irP T n (sk T n 0) = sk T n 0 + 5 then 1 else 0))) (x) (fun w => YS y0 t n w (irP T n (sk T n 0)) 0 ∧ (irP T n (sk T n 0) = sk T n 0 + 5 → ∀ j : Int, 0 ≤ j → j < 4 → w 50 j = T (sk T n 0 + 1 + j) - 48))) := by
  refine g_met RX8 rfl (by decide +kernel) [(0, .ref (ad 8 (0)))] rfl (Nat.le_of_ble_eq_true rfl) (fun Θ F hR => ?_)
  have hk := sk_r T n 0
  have hY1 : YS y0 t n (yU y 11 0 (sk T n 0)) (sk T n 0) 0 := YS_p hY _
  refine g_aload_n F dX8_readsIron_0 rfl 0 rfl ?_
  refine g_callV 0 F (As := []) (st := []) (c_X8_skip l D ad x y y0 t T n (0) (0) (by omega) (by omega) (hT) (hb) (hY) (by omega)) (gR_8) rfl mk_X8_123 ki_X8_skip kc_X8_skip (by decide +kernel) rfl (by decide) dX8_readsIron_1 rfl (Nat.le_of_ble_eq_true rfl) (pV_k ?_)
  refine g_aload_n F dX8_readsIron_4 rfl 0 rfl ?_
  refine gg_Model_place F fk_X8_109 dX8_readsIron_5 ?_
  refine g_topi (b := sk T n 0) (yU_same _ _ _ _) ?_
  refine g_aload_n F dX8_readsIron_8 rfl 0 rfl ?_
  refine gg_Model_end F fk_X8_112 dX8_readsIron_9 ?_
  refine g_topi (b := n) (hY.2.2.1) ?_
  refine g_icmp_eq 24 F dX8_readsIron_12 (by omega) (by omega) rfl (fun c_1 => ?_) (fun c_1 => ?_)
  · skip
    refine g_iconst F dX8_readsIron_24 (0) (by decide) ?_
    exact g_zreturn F hR dX8_readsIron_25 (by omega) (pH_z (by first | exact (RK_e hw (by omega)).1 | (rw [if_neg (by unfold irP; rw [if_pos (by omega)]; omega)]; done)) (by have e : irP T n (sk T n 0) = sk T n 0 := (by unfold irP; rw [if_pos (by omega)]); rw [e]; exact ⟨hY1, fun q => by omega⟩) rfl)
  · skip
    refine g_aload_n F dX8_readsIron_15 rfl 0 rfl ?_
    have hq := hb (sk T n 0)
    refine g_callV 0 F (As := []) (st := []) (c_X8_here l D ad x (yU y 11 0 (sk T n (0))) y0 t T n (sk T n 0) (0) (by omega) (by omega) (hT) (hb) (hY1) (by omega)) (gR_8) rfl mk_X8_115 ki_X8_here kc_X8_here (by decide +kernel) rfl (by decide) dX8_readsIron_16 rfl (Nat.le_of_ble_eq_true rfl) (pI_k ?_)
    refine g_bipush F dX8_readsIron_19 (105) (by decide) ?_
    refine g_icmp_eq 26 F dX8_readsIron_21 (by omega) (by decide) rfl (fun c_2 => ?_) (fun c_2 => ?_)
    · skip
      refine g_aload_n F dX8_readsIron_26 rfl 0 rfl ?_
      refine g_dup F dX8_readsIron_27 rfl ?_
      refine gg_Model_place F fk_X8_109 dX8_readsIron_28 ?_
      refine g_topi (b := sk T n 0) (yU_same _ _ _ _) ?_
      refine g_iconst F dX8_readsIron_31 (1) (by decide) ?_
      refine g_iadd F dX8_readsIron_32 ?_
      refine gp_Model_place F fk_X8_109 dX8_readsIron_33 ?_
      refine g_iconst F dX8_readsIron_36 (1) (by decide) ?_
      refine g_istore_n F [(1, .int (J (1))), (0, .ref (ad 8 (0)))] dX8_readsIron_37 rfl (by decide) rfl ?_
      refine g_iconst F dX8_readsIron_38 (0) (by decide) ?_
      refine g_istore_n F [(2, .int (J (0))), (1, .int (J (1))), (0, .ref (ad 8 (0)))] dX8_readsIron_39 rfl (by decide) rfl ?_
      have L40 : ∀ (N : Nat) (w : gY) (i : Int) (k : Int), 0 ≤ k ∧ k ≤ 4 → RK y0 t T n (sk T n 0) w i k → (4 - k).toNat < N → gW Θ l D ad 3 40 [(0, .ref (ad 8 (0))), (1, .int (J (i))), (2, .int (J (k)))] [] x w := by
        intro N
        induction N with
        | zero => intro w i k hk4 hw hFu; omega
        | succ N ih40 =>
          intro w i k hk4 hw hFu
          have hi01 := RK_w hw
          refine g_iload_n F dX8_readsIron_40 rfl 2 rfl ?_
          refine g_iconst F dX8_readsIron_41 (4) (by decide) ?_
          refine g_icmp_ge 113 F dX8_readsIron_42 (by omega) (by decide) rfl (fun c_3 => ?_) (fun c_3 => ?_)
          · skip
            refine g_iload_n F dX8_readsIron_113 rfl 1 rfl ?_
            exact g_zreturn F hR dX8_readsIron_114 (by omega) (pH_z (by first | exact (RK_e hw (by omega)).1 | (rw [if_neg (by unfold irP; rw [if_pos (by omega)]; omega)]; done)) (by exact (RK_e hw (by omega)).2) rfl)
          · skip
            refine g_iload_n F dX8_readsIron_45 rfl 1 rfl ?_
            refine g_if_eq 113 F dX8_readsIron_46 (by omega) rfl (fun c_4 => ?_) (fun c_4 => ?_)
            · skip
              refine g_iload_n F dX8_readsIron_113 rfl 1 rfl ?_
              exact g_zreturn F hR dX8_readsIron_114 (by omega) (pH_z (by first | exact (RK_e hw (by omega)).1 | (rw [if_neg (by unfold irP; rw [if_pos (by omega)]; omega)]; done)) (by exact (RK_e hw (by omega)).2) rfl)
            · skip
              have hS := RK_1 hw (by omega)
              have hq := hb (sk T n 0 + 1 + k)
              refine g_aload_n F dX8_readsIron_49 rfl 0 rfl ?_
              refine gg_Model_readCourt F fk_X8_44 dX8_readsIron_50 ?_
              refine g_iload_n F dX8_readsIron_53 rfl 2 rfl ?_
              refine g_iload_n F dX8_readsIron_54 rfl 2 rfl ?_
              refine g_if_ne 67 F dX8_readsIron_55 (by omega) rfl (fun c_5 => ?_) (fun c_5 => ?_)
              · skip
                refine g_iload_n F dX8_readsIron_67 rfl 2 rfl ?_
                refine g_iconst F dX8_readsIron_68 (3) (by decide) ?_
                refine g_icmp_ne 82 F dX8_readsIron_69 (by omega) (by decide) rfl (fun c_6 => ?_) (fun c_6 => ?_)
                · skip
                  refine g_aload_n F dX8_readsIron_82 rfl 0 rfl ?_
                  refine g_iconst F dX8_readsIron_83 (0) (by decide) ?_
                  refine g_bipush F dX8_readsIron_84 (9) (by decide) ?_
                  refine g_callV 2 F (As := [.int (J (0)), .int (J (9))]) (st := [.int (J (k)), .ref (ad 50 (0))]) (c_X8_figure l D ad x w y0 t T n (sk T n 0 + 1 + k) (0) (0) (9) (by omega) (by omega) (hT) (hb) (hS.1) (by omega) (by omega)) (gR_8) rfl mk_X8_126 ki_X8_figure kc_X8_figure (by decide +kernel) rfl (by decide) dX8_readsIron_86 rfl (Nat.le_of_ble_eq_true rfl) (pH_k (fun v_86 hG_86 => ?_))
                  have hK : fgP T n (sk T n 0 + 1 + k) 0 9 ↔ (FGK T n (sk T n 0) k = true) := by rw [FGK_i]; constructor <;> intro q <;> omega
                  have hx : ((FGK T n (sk T n 0) k = true) → v_86 = yU w 11 0 (sk T n 0 + 1 + k + 1)) ∧ (¬ (FGK T n (sk T n 0) k = true) → v_86 = w) := ⟨fun q => hG_86.1 (hK.mpr q), fun q => hG_86.2 (fun r => q (hK.mp r))⟩
                  refine g_topi (b := if (FGK T n (sk T n 0) k = true) then T (sk T n 0 + 1 + k) - 48 else -9) (by by_cases q : FGK T n (sk T n 0) k = true; (rw [if_pos q, if_pos (hK.mpr q)]); (rw [if_neg q, if_neg (fun r => q (hK.mp r))])) ?_
                  refine gs_50 F (by omega) dX8_readsIron_89 ?_
                  refine g_aload_n F dX8_readsIron_90 rfl 0 rfl ?_
                  refine gg_Model_readCourt F fk_X8_44 dX8_readsIron_91 ?_
                  refine g_iload_n F dX8_readsIron_94 rfl 2 rfl ?_
                  refine ga_50 F (by omega) dX8_readsIron_95 ?_
                  refine g_topi (b := if (FGK T n (sk T n 0) k = true) then T (sk T n 0 + 1 + k) - 48 else -9) (by simp [yU]) ?_
                  refine g_bipush F dX8_readsIron_96 (-9) (by decide) ?_
                  refine g_icmp_eq 105 F dX8_readsIron_98 (by split <;> omega) (by decide) rfl (fun c_7 => ?_) (fun c_7 => ?_)
                  · skip
                    have hfk : ¬ (FGK T n (sk T n 0) k = true) := fun q => by rw [if_pos q] at c_7; have := FGK_i.mp q; omega
                    refine g_iconst F dX8_readsIron_105 (0) (by decide) ?_
                    refine g_istore_n F [(1, .int (J (0))), (0, .ref (ad 8 (0))), (2, .int (J (k)))] dX8_readsIron_106 rfl (by decide) rfl ?_
                    refine g_iinc F [(2, .int (J (k + 1))), (1, .int (J (0))), (0, .ref (ad 8 (0)))] 2 rfl dX8_readsIron_107 (by decide) rfl ?_
                    refine g_goto F 40 dX8_readsIron_110 rfl ?_
                    refine g_sub [2, 1, 0] (lv' := [(0, .ref (ad 8 (0))), (1, .int (J (0))), (2, .int (J (k + 1)))]) rfl ?_
                    exact ih40 ((yU v_86 50 (k) (if (FGK T n (sk T n 0) k = true) then T (sk T n 0 + 1 + k) - 48 else -9))) (0) (k + 1) (by omega) (by first | exact RK_s hS (by omega) hx hfk | exact RK_f hS (by omega) hx hfk) (by omega)
                  · skip
                    have hfk : (FGK T n (sk T n 0) k = true) := Decidable.byContradiction (fun q => c_7 (if_neg q))
                    refine g_iconst F dX8_readsIron_101 (1) (by decide) ?_
                    refine g_goto F 106 dX8_readsIron_102 rfl ?_
                    refine g_istore_n F [(1, .int (J (1))), (0, .ref (ad 8 (0))), (2, .int (J (k)))] dX8_readsIron_106 rfl (by decide) rfl ?_
                    refine g_iinc F [(2, .int (J (k + 1))), (1, .int (J (1))), (0, .ref (ad 8 (0)))] 2 rfl dX8_readsIron_107 (by decide) rfl ?_
                    refine g_goto F 40 dX8_readsIron_110 rfl ?_
                    refine g_sub [2, 1, 0] (lv' := [(0, .ref (ad 8 (0))), (1, .int (J (1))), (2, .int (J (k + 1)))]) rfl ?_
                    exact ih40 ((yU v_86 50 (k) (if (FGK T n (sk T n 0) k = true) then T (sk T n 0 + 1 + k) - 48 else -9))) (1) (k + 1) (by omega) (by first | exact RK_s hS (by omega) hx hfk | exact RK_f hS (by omega) hx hfk) (by omega)
                · skip
                  refine g_aload_n F dX8_readsIron_72 rfl 0 rfl ?_
                  refine g_iconst F dX8_readsIron_73 (1) (by decide) ?_
                  refine g_bipush F dX8_readsIron_74 (6) (by decide) ?_
                  refine g_callV 2 F (As := [.int (J (1)), .int (J (6))]) (st := [.int (J (k)), .ref (ad 50 (0))]) (c_X8_figure l D ad x w y0 t T n (sk T n 0 + 1 + k) (0) (1) (6) (by omega) (by omega) (hT) (hb) (hS.1) (by omega) (by omega)) (gR_8) rfl mk_X8_126 ki_X8_figure kc_X8_figure (by decide +kernel) rfl (by decide) dX8_readsIron_76 rfl (Nat.le_of_ble_eq_true rfl) (pH_k (fun v_76 hG_76 => ?_))
                  have hK : fgP T n (sk T n 0 + 1 + k) 1 6 ↔ (FGK T n (sk T n 0) k = true) := by rw [FGK_i]; constructor <;> intro q <;> omega
                  have hx : ((FGK T n (sk T n 0) k = true) → v_76 = yU w 11 0 (sk T n 0 + 1 + k + 1)) ∧ (¬ (FGK T n (sk T n 0) k = true) → v_76 = w) := ⟨fun q => hG_76.1 (hK.mpr q), fun q => hG_76.2 (fun r => q (hK.mp r))⟩
                  refine g_goto F 89 dX8_readsIron_79 rfl ?_
                  refine g_topi (b := if (FGK T n (sk T n 0) k = true) then T (sk T n 0 + 1 + k) - 48 else -9) (by by_cases q : FGK T n (sk T n 0) k = true; (rw [if_pos q, if_pos (hK.mpr q)]); (rw [if_neg q, if_neg (fun r => q (hK.mp r))])) ?_
                  refine gs_50 F (by omega) dX8_readsIron_89 ?_
                  refine g_aload_n F dX8_readsIron_90 rfl 0 rfl ?_
                  refine gg_Model_readCourt F fk_X8_44 dX8_readsIron_91 ?_
                  refine g_iload_n F dX8_readsIron_94 rfl 2 rfl ?_
                  refine ga_50 F (by omega) dX8_readsIron_95 ?_
                  refine g_topi (b := if (FGK T n (sk T n 0) k = true) then T (sk T n 0 + 1 + k) - 48 else -9) (by simp [yU]) ?_
                  refine g_bipush F dX8_readsIron_96 (-9) (by decide) ?_
                  refine g_icmp_eq 105 F dX8_readsIron_98 (by split <;> omega) (by decide) rfl (fun c_8 => ?_) (fun c_8 => ?_)
                  · skip
                    have hfk : ¬ (FGK T n (sk T n 0) k = true) := fun q => by rw [if_pos q] at c_8; have := FGK_i.mp q; omega
                    refine g_iconst F dX8_readsIron_105 (0) (by decide) ?_
                    refine g_istore_n F [(1, .int (J (0))), (0, .ref (ad 8 (0))), (2, .int (J (k)))] dX8_readsIron_106 rfl (by decide) rfl ?_
                    refine g_iinc F [(2, .int (J (k + 1))), (1, .int (J (0))), (0, .ref (ad 8 (0)))] 2 rfl dX8_readsIron_107 (by decide) rfl ?_
                    refine g_goto F 40 dX8_readsIron_110 rfl ?_
                    refine g_sub [2, 1, 0] (lv' := [(0, .ref (ad 8 (0))), (1, .int (J (0))), (2, .int (J (k + 1)))]) rfl ?_
                    exact ih40 ((yU v_76 50 (k) (if (FGK T n (sk T n 0) k = true) then T (sk T n 0 + 1 + k) - 48 else -9))) (0) (k + 1) (by omega) (by first | exact RK_s hS (by omega) hx hfk | exact RK_f hS (by omega) hx hfk) (by omega)
                  · skip
                    have hfk : (FGK T n (sk T n 0) k = true) := Decidable.byContradiction (fun q => c_8 (if_neg q))
                    refine g_iconst F dX8_readsIron_101 (1) (by decide) ?_
                    refine g_goto F 106 dX8_readsIron_102 rfl ?_
                    refine g_istore_n F [(1, .int (J (1))), (0, .ref (ad 8 (0))), (2, .int (J (k)))] dX8_readsIron_106 rfl (by decide) rfl ?_
                    refine g_iinc F [(2, .int (J (k + 1))), (1, .int (J (1))), (0, .ref (ad 8 (0)))] 2 rfl dX8_readsIron_107 (by decide) rfl ?_
                    refine g_goto F 40 dX8_readsIron_110 rfl ?_
                    refine g_sub [2, 1, 0] (lv' := [(0, .ref (ad 8 (0))), (1, .int (J (1))), (2, .int (J (k + 1)))]) rfl ?_
                    exact ih40 ((yU v_76 50 (k) (if (FGK T n (sk T n 0) k = true) then T (sk T n 0 + 1 + k) - 48 else -9))) (1) (k + 1) (by omega) (by first | exact RK_s hS (by omega) hx hfk | exact RK_f hS (by omega) hx hfk) (by omega)
              · skip
                refine g_aload_n F dX8_readsIron_58 rfl 0 rfl ?_
                refine g_iconst F dX8_readsIron_59 (1) (by decide) ?_
                refine g_iconst F dX8_readsIron_60 (3) (by decide) ?_
                refine g_callV 2 F (As := [.int (J (1)), .int (J (3))]) (st := [.int (J (k)), .ref (ad 50 (0))]) (c_X8_figure l D ad x w y0 t T n (sk T n 0 + 1 + k) (0) (1) (3) (by omega) (by omega) (hT) (hb) (hS.1) (by omega) (by omega)) (gR_8) rfl mk_X8_126 ki_X8_figure kc_X8_figure (by decide +kernel) rfl (by decide) dX8_readsIron_61 rfl (Nat.le_of_ble_eq_true rfl) (pH_k (fun v_61 hG_61 => ?_))
                have hK : fgP T n (sk T n 0 + 1 + k) 1 3 ↔ (FGK T n (sk T n 0) k = true) := by rw [FGK_i]; constructor <;> intro q <;> omega
                have hx : ((FGK T n (sk T n 0) k = true) → v_61 = yU w 11 0 (sk T n 0 + 1 + k + 1)) ∧ (¬ (FGK T n (sk T n 0) k = true) → v_61 = w) := ⟨fun q => hG_61.1 (hK.mpr q), fun q => hG_61.2 (fun r => q (hK.mp r))⟩
                refine g_goto F 89 dX8_readsIron_64 rfl ?_
                refine g_topi (b := if (FGK T n (sk T n 0) k = true) then T (sk T n 0 + 1 + k) - 48 else -9) (by by_cases q : FGK T n (sk T n 0) k = true; (rw [if_pos q, if_pos (hK.mpr q)]); (rw [if_neg q, if_neg (fun r => q (hK.mp r))])) ?_
                refine gs_50 F (by omega) dX8_readsIron_89 ?_
                refine g_aload_n F dX8_readsIron_90 rfl 0 rfl ?_
                refine gg_Model_readCourt F fk_X8_44 dX8_readsIron_91 ?_
                refine g_iload_n F dX8_readsIron_94 rfl 2 rfl ?_
                refine ga_50 F (by omega) dX8_readsIron_95 ?_
                refine g_topi (b := if (FGK T n (sk T n 0) k = true) then T (sk T n 0 + 1 + k) - 48 else -9) (by simp [yU]) ?_
                refine g_bipush F dX8_readsIron_96 (-9) (by decide) ?_
                refine g_icmp_eq 105 F dX8_readsIron_98 (by split <;> omega) (by decide) rfl (fun c_9 => ?_) (fun c_9 => ?_)
                · skip
                  have hfk : ¬ (FGK T n (sk T n 0) k = true) := fun q => by rw [if_pos q] at c_9; have := FGK_i.mp q; omega
                  refine g_iconst F dX8_readsIron_105 (0) (by decide) ?_
                  refine g_istore_n F [(1, .int (J (0))), (0, .ref (ad 8 (0))), (2, .int (J (k)))] dX8_readsIron_106 rfl (by decide) rfl ?_
                  refine g_iinc F [(2, .int (J (k + 1))), (1, .int (J (0))), (0, .ref (ad 8 (0)))] 2 rfl dX8_readsIron_107 (by decide) rfl ?_
                  refine g_goto F 40 dX8_readsIron_110 rfl ?_
                  refine g_sub [2, 1, 0] (lv' := [(0, .ref (ad 8 (0))), (1, .int (J (0))), (2, .int (J (k + 1)))]) rfl ?_
                  exact ih40 ((yU v_61 50 (k) (if (FGK T n (sk T n 0) k = true) then T (sk T n 0 + 1 + k) - 48 else -9))) (0) (k + 1) (by omega) (by first | exact RK_s hS (by omega) hx hfk | exact RK_f hS (by omega) hx hfk) (by omega)
                · skip
                  have hfk : (FGK T n (sk T n 0) k = true) := Decidable.byContradiction (fun q => c_9 (if_neg q))
                  refine g_iconst F dX8_readsIron_101 (1) (by decide) ?_
                  refine g_goto F 106 dX8_readsIron_102 rfl ?_
                  refine g_istore_n F [(1, .int (J (1))), (0, .ref (ad 8 (0))), (2, .int (J (k)))] dX8_readsIron_106 rfl (by decide) rfl ?_
                  refine g_iinc F [(2, .int (J (k + 1))), (1, .int (J (1))), (0, .ref (ad 8 (0)))] 2 rfl dX8_readsIron_107 (by decide) rfl ?_
                  refine g_goto F 40 dX8_readsIron_110 rfl ?_
                  refine g_sub [2, 1, 0] (lv' := [(0, .ref (ad 8 (0))), (1, .int (J (1))), (2, .int (J (k + 1)))]) rfl ?_
                  exact ih40 ((yU v_61 50 (k) (if (FGK T n (sk T n 0) k = true) then T (sk T n 0 + 1 + k) - 48 else -9))) (1) (k + 1) (by omega) (by first | exact RK_s hS (by omega) hx hfk | exact RK_f hS (by omega) hx hfk) (by omega)
      refine g_sub [2, 1, 0] (lv' := [(0, .ref (ad 8 (0))), (1, .int (J (1))), (2, .int (J (0)))]) rfl ?_
      exact L40 _ ((yU (yU y 11 0 (sk T n (0))) 11 (0) ((sk T n 0) + (1)))) (1) (0) (by omega) (Or.inl ⟨rfl, YS_eq (YS_p hY1 _) (by omega) rfl, ⟨by omega, by omega, by omega, by omega, by omega⟩, fun j j0 j1 => by omega⟩) (Nat.lt_succ_self _)
    · skip
      refine g_iconst F dX8_readsIron_24 (0) (by decide) ?_
      exact g_zreturn F hR dX8_readsIron_25 (by omega) (pH_z (by first | exact (RK_e hw (by omega)).1 | (rw [if_neg (by unfold irP; rw [if_pos (by omega)]; omega)]; done)) (by have e : irP T n (sk T n 0) = sk T n 0 := (by unfold irP; rw [if_pos (by omega)]); rw [e]; exact ⟨hY1, fun q => by omega⟩) rfl)

set_option maxHeartbeats 2000000 in
set_option maxRecDepth 20000 in
theorem c_X8_readsMan (l : Launch) (D : gD) (ad : gA) (x : gX) (y : gY) (y0 : gY) (t : Int) (T : Int → Int) (n p m : Int) (ht : 0 ≤ t ∧ t < 4) (hn : 0 ≤ n ∧ n ≤ 60) (hT : ∀ j : Int, 0 ≤ j → j < n → y0 48 (60 * t + j) = T j) (hb : ∀ j : Int, -128 ≤ T j ∧ T j ≤ 127) (hY : YS y0 t n y p m) (hp : 0 ≤ p ∧ p < n) (hm : 0 ≤ m ∧ m ≤ 6) : gC l D ad 3 yX8_readsMan cX8_readsMan 5 (some .boolean) [.ref (ad 8 (0))] x y (pH (.int (J (if mnP T n p = p + 4 ∧ m ≠ 6 then 1 else 0))) (x) (fun w => ((mnP T n p = p + 4 ∧ m ≠ 6) → YS y0 t n w (p + 4) (m + 1) ∧ NM T y m p w 4) ∧ (¬ (mnP T n p = p + 4 ∧ m ≠ 6) → YS y0 t n w (if m = 6 then p else mnP T n p) m))) := by
  refine g_met RX8 rfl (by decide +kernel) [(0, .ref (ad 8 (0)))] rfl (Nat.le_of_ble_eq_true rfl) (fun Θ F hR => ?_)
  have hq := hb p
  have hkd := kdO_r (T p)
  refine g_iconst F dX8_readsMan_0 (4) (by decide) ?_
  refine g_aload_n F dX8_readsMan_1 rfl 0 rfl ?_
  refine gg_Model_readMany F fk_X8_129 dX8_readsMan_2 ?_
  refine g_topi (b := m) (hY.2.2.2.2) ?_
  refine g_imul F dX8_readsMan_5 ?_
  refine g_topi (b := 4 * m) (rfl) ?_
  refine g_istore_n F [(1, .int (J (4 * m))), (0, .ref (ad 8 (0)))] dX8_readsMan_6 rfl (by decide) rfl ?_
  refine g_aload_n F dX8_readsMan_7 rfl 1 rfl ?_
  refine g_callV 0 F (As := []) (st := []) (c_X8_here l D ad x y y0 t T n p m (by omega) (by omega) (hT) (hb) (hY) (by omega)) (gR_8) rfl mk_X8_115 ki_X8_here kc_X8_here (by decide +kernel) rfl (by decide) dX8_readsMan_8 rfl (Nat.le_of_ble_eq_true rfl) (pI_k ?_)
  refine g_callS 1 F (As := [.int (J (T p))]) (st := []) (c_X8_kindOfLetter l D ad x y (T p) (by omega)) rfl mk_X8_132 ki_X8_kindOfLetter kc_X8_kindOfLetter (by decide +kernel) rfl (by decide) dX8_readsMan_11 rfl (Nat.le_of_ble_eq_true rfl) (pI_k ?_)
  refine g_istore_n F [(2, .int (J (kdO (T p)))), (1, .int (J (4 * m))), (0, .ref (ad 8 (0)))] dX8_readsMan_14 rfl (by decide) rfl ?_
  have hkd2 := kdO_r (T p)
  refine g_iload_n F dX8_readsMan_15 rfl 0 rfl ?_
  refine g_bipush F dX8_readsMan_16 (-9) (by decide) ?_
  refine g_icmp_eq 30 F dX8_readsMan_18 (by omega) (by decide) rfl (fun c_1 => ?_) (fun c_1 => ?_)
  · skip
    refine g_iconst F dX8_readsMan_30 (0) (by decide) ?_
    exact g_zreturn F hR dX8_readsMan_31 (by omega) (pH_z (by first | (have he := (MK_e hw (by omega)).1; rw [he]; (have hm6 : m ≠ 6 := by omega); simp only [hm6, ne_eq, not_false_eq_true, and_true]; done) | (have e := mn_no (T := T) (n := n) (p := p); rw [if_neg (by omega)]; done)) (by refine ⟨fun q => ?_, fun q => ?_⟩; (exfalso; have e := mn_no (T := T) (n := n) (p := p); omega); (first | (rw [if_pos (by omega)]; exact hY) | (rw [mn_no (by omega)]; (have e : (if m = 6 then p else p) = p := by split <;> rfl); rw [e]; exact hY))) rfl)
  · skip
    refine g_aload_n F dX8_readsMan_21 rfl 2 rfl ?_
    refine gg_Model_readMany F fk_X8_129 dX8_readsMan_22 ?_
    refine g_topi (b := m) (hY.2.2.2.2) ?_
    refine g_bipush F dX8_readsMan_25 (6) (by decide) ?_
    refine g_icmp_ne 32 F dX8_readsMan_27 (by omega) (by decide) rfl (fun c_2 => ?_) (fun c_2 => ?_)
    · skip
      refine g_aload_n F dX8_readsMan_32 rfl 2 rfl ?_
      refine g_dup F dX8_readsMan_33 rfl ?_
      refine gg_Model_place F fk_X8_109 dX8_readsMan_34 ?_
      refine g_topi (b := p) (hY.2.2.2.1) ?_
      refine g_iconst F dX8_readsMan_37 (1) (by decide) ?_
      refine g_iadd F dX8_readsMan_38 ?_
      refine gp_Model_place F fk_X8_109 dX8_readsMan_39 ?_
      refine g_aload_n F dX8_readsMan_42 rfl 2 rfl ?_
      refine gg_Model_readMen F fk_X8_47 dX8_readsMan_43 ?_
      refine g_iload_n F dX8_readsMan_46 rfl 1 rfl ?_
      refine g_iload_n F dX8_readsMan_47 rfl 0 rfl ?_
      refine gs_51 F (by omega) dX8_readsMan_48 ?_
      refine g_iconst F dX8_readsMan_49 (1) (by decide) ?_
      refine g_istore_n F [(3, .int (J (1))), (2, .int (J (kdO (T p)))), (1, .int (J (4 * m))), (0, .ref (ad 8 (0)))] dX8_readsMan_50 rfl (by decide) rfl ?_
      refine g_iconst F dX8_readsMan_51 (1) (by decide) ?_
      refine g_istore F [(4, .int (J (1))), (3, .int (J (1))), (2, .int (J (kdO (T p)))), (1, .int (J (4 * m))), (0, .ref (ad 8 (0)))] dX8_readsMan_52 (by decide) rfl ?_
      have L54 : ∀ (N : Nat) (w : gY) (i : Int) (k : Int), 1 ≤ k ∧ k ≤ 4 → MK y0 y t T n p m w i k → (4 - k).toNat < N → gW Θ l D ad 5 54 [(0, .ref (ad 8 (0))), (1, .int (J (4 * m))), (3, .int (J (i))), (4, .int (J (k)))] [] x w := by
        intro N
        induction N with
        | zero => intro w i k hk4 hw hFu; omega
        | succ N ih54 =>
          intro w i k hk4 hw hFu
          have hi01 := MK_w hw
          refine g_iload F dX8_readsMan_54 3 rfl ?_
          refine g_iconst F dX8_readsMan_56 (4) (by decide) ?_
          refine g_icmp_ge 116 F dX8_readsMan_57 (by omega) (by decide) rfl (fun c_3 => ?_) (fun c_3 => ?_)
          · skip
            refine g_aload_n F dX8_readsMan_116 rfl 0 rfl ?_
            refine g_dup F dX8_readsMan_117 rfl ?_
            refine gg_Model_readMany F fk_X8_129 dX8_readsMan_118 ?_
            refine g_topi (b := m) (MK_13 hw) ?_
            refine g_iload_n F dX8_readsMan_121 rfl 2 rfl ?_
            refine g_if_eq 129 F dX8_readsMan_122 (by omega) rfl (fun c_4 => ?_) (fun c_4 => ?_)
            · skip
              refine g_iconst F dX8_readsMan_129 (0) (by decide) ?_
              refine g_iadd F dX8_readsMan_130 ?_
              refine gp_Model_readMany F fk_X8_129 dX8_readsMan_131 ?_
              refine g_iload_n F dX8_readsMan_134 rfl 2 rfl ?_
              exact g_zreturn F hR dX8_readsMan_135 (by omega) (pH_z (by first | (have he := (MK_e hw (by omega)).1; rw [he]; (have hm6 : m ≠ 6 := by omega); simp only [hm6, ne_eq, not_false_eq_true, and_true]; done) | (have e := mn_no (T := T) (n := n) (p := p); rw [if_neg (by omega)]; done)) (by have he := MK_e hw (by omega); refine ⟨fun q => ?_, fun q => ?_⟩; (rw [if_pos q.1] at he; exact ⟨YS_eq (YS_m he.2.1 _) q.1 (by omega), NM_13 (he.2.2 q.1)⟩); (rw [if_neg (fun r => q ⟨r, by omega⟩)] at he; rw [if_neg (by omega)]; exact YS_eq (YS_m he.2.1 _) rfl (by omega))) rfl)
            · skip
              refine g_iconst F dX8_readsMan_125 (1) (by decide) ?_
              refine g_goto F 130 dX8_readsMan_126 rfl ?_
              refine g_iadd F dX8_readsMan_130 ?_
              refine gp_Model_readMany F fk_X8_129 dX8_readsMan_131 ?_
              refine g_iload_n F dX8_readsMan_134 rfl 2 rfl ?_
              exact g_zreturn F hR dX8_readsMan_135 (by omega) (pH_z (by first | (have he := (MK_e hw (by omega)).1; rw [he]; (have hm6 : m ≠ 6 := by omega); simp only [hm6, ne_eq, not_false_eq_true, and_true]; done) | (have e := mn_no (T := T) (n := n) (p := p); rw [if_neg (by omega)]; done)) (by have he := MK_e hw (by omega); refine ⟨fun q => ?_, fun q => ?_⟩; (rw [if_pos q.1] at he; exact ⟨YS_eq (YS_m he.2.1 _) q.1 (by omega), NM_13 (he.2.2 q.1)⟩); (rw [if_neg (fun r => q ⟨r, by omega⟩)] at he; rw [if_neg (by omega)]; exact YS_eq (YS_m he.2.1 _) rfl (by omega))) rfl)
          · skip
            refine g_iload_n F dX8_readsMan_60 rfl 2 rfl ?_
            refine g_if_eq 116 F dX8_readsMan_61 (by omega) rfl (fun c_5 => ?_) (fun c_5 => ?_)
            · skip
              refine g_aload_n F dX8_readsMan_116 rfl 0 rfl ?_
              refine g_dup F dX8_readsMan_117 rfl ?_
              refine gg_Model_readMany F fk_X8_129 dX8_readsMan_118 ?_
              refine g_topi (b := m) (MK_13 hw) ?_
              refine g_iload_n F dX8_readsMan_121 rfl 2 rfl ?_
              refine g_if_eq 129 F dX8_readsMan_122 (by omega) rfl (fun c_6 => ?_) (fun c_6 => ?_)
              · skip
                refine g_iconst F dX8_readsMan_129 (0) (by decide) ?_
                refine g_iadd F dX8_readsMan_130 ?_
                refine gp_Model_readMany F fk_X8_129 dX8_readsMan_131 ?_
                refine g_iload_n F dX8_readsMan_134 rfl 2 rfl ?_
                exact g_zreturn F hR dX8_readsMan_135 (by omega) (pH_z (by first | (have he := (MK_e hw (by omega)).1; rw [he]; (have hm6 : m ≠ 6 := by omega); simp only [hm6, ne_eq, not_false_eq_true, and_true]; done) | (have e := mn_no (T := T) (n := n) (p := p); rw [if_neg (by omega)]; done)) (by have he := MK_e hw (by omega); refine ⟨fun q => ?_, fun q => ?_⟩; (rw [if_pos q.1] at he; exact ⟨YS_eq (YS_m he.2.1 _) q.1 (by omega), NM_13 (he.2.2 q.1)⟩); (rw [if_neg (fun r => q ⟨r, by omega⟩)] at he; rw [if_neg (by omega)]; exact YS_eq (YS_m he.2.1 _) rfl (by omega))) rfl)
              · skip
                refine g_iconst F dX8_readsMan_125 (1) (by decide) ?_
                refine g_goto F 130 dX8_readsMan_126 rfl ?_
                refine g_iadd F dX8_readsMan_130 ?_
                refine gp_Model_readMany F fk_X8_129 dX8_readsMan_131 ?_
                refine g_iload_n F dX8_readsMan_134 rfl 2 rfl ?_
                exact g_zreturn F hR dX8_readsMan_135 (by omega) (pH_z (by first | (have he := (MK_e hw (by omega)).1; rw [he]; (have hm6 : m ≠ 6 := by omega); simp only [hm6, ne_eq, not_false_eq_true, and_true]; done) | (have e := mn_no (T := T) (n := n) (p := p); rw [if_neg (by omega)]; done)) (by have he := MK_e hw (by omega); refine ⟨fun q => ?_, fun q => ?_⟩; (rw [if_pos q.1] at he; exact ⟨YS_eq (YS_m he.2.1 _) q.1 (by omega), NM_13 (he.2.2 q.1)⟩); (rw [if_neg (fun r => q ⟨r, by omega⟩)] at he; rw [if_neg (by omega)]; exact YS_eq (YS_m he.2.1 _) rfl (by omega))) rfl)
            · skip
              have hS := MK_1 hw (by omega)
              have hqk := hb (p + k)
              refine g_aload_n F dX8_readsMan_64 rfl 0 rfl ?_
              refine gg_Model_readMen F fk_X8_47 dX8_readsMan_65 ?_
              refine g_iload_n F dX8_readsMan_68 rfl 1 rfl ?_
              refine g_iload F dX8_readsMan_69 3 rfl ?_
              refine g_iadd F dX8_readsMan_71 ?_
              refine g_aload_n F dX8_readsMan_72 rfl 0 rfl ?_
              refine g_iconst F dX8_readsMan_73 (0) (by decide) ?_
              refine g_iload F dX8_readsMan_74 3 rfl ?_
              refine g_iconst F dX8_readsMan_76 (1) (by decide) ?_
              refine g_icmp_ne 84 F dX8_readsMan_77 (by omega) (by decide) rfl (fun c_7 => ?_) (fun c_7 => ?_)
              · skip
                refine g_bipush F dX8_readsMan_84 (9) (by decide) ?_
                refine g_callV 2 F (As := [.int (J (0)), .int (J (9))]) (st := [.int (J ((4 * m) + (k))), .ref (ad 51 (0))]) (c_X8_figure l D ad x w y0 t T n (p + k) (m) (0) (9) (by omega) (by omega) (hT) (hb) (hS.1) (by omega) (by omega)) (gR_8) rfl mk_X8_126 ki_X8_figure kc_X8_figure (by decide +kernel) rfl (by decide) dX8_readsMan_86 rfl (Nat.le_of_ble_eq_true rfl) (pH_k (fun v_86 hG_86 => ?_))
                have hK : fgP T n (p + k) 0 9 ↔ (FGM T n p k = true) := by rw [FGM_i]; constructor <;> intro q <;> omega
                have hx : ((FGM T n p k = true) → v_86 = yU w 11 0 (p + k + 1)) ∧ (¬ (FGM T n p k = true) → v_86 = w) := ⟨fun q => hG_86.1 (hK.mpr q), fun q => hG_86.2 (fun r => q (hK.mp r))⟩
                refine g_topi (b := if (FGM T n p k = true) then T (p + k) - 48 else -9) (by by_cases q : (FGM T n p k = true); (rw [if_pos q, if_pos (hK.mpr q)]); (rw [if_neg q, if_neg (fun r => q (hK.mp r))])) ?_
                refine gs_51 F (by omega) dX8_readsMan_89 ?_
                refine g_aload_n F dX8_readsMan_90 rfl 0 rfl ?_
                refine gg_Model_readMen F fk_X8_47 dX8_readsMan_91 ?_
                refine g_iload_n F dX8_readsMan_94 rfl 1 rfl ?_
                refine g_iload F dX8_readsMan_95 3 rfl ?_
                refine g_iadd F dX8_readsMan_97 ?_
                refine ga_51 F (by omega) dX8_readsMan_98 ?_
                refine g_topi (b := if (FGM T n p k = true) then T (p + k) - 48 else -9) (by simp [yU]) ?_
                refine g_bipush F dX8_readsMan_99 (-9) (by decide) ?_
                refine g_icmp_eq 108 F dX8_readsMan_101 (by split <;> omega) (by decide) rfl (fun c_8 => ?_) (fun c_8 => ?_)
                · skip
                  have hfk : ¬ (FGM T n p k = true) := fun q => by rw [if_pos q] at c_8; have := FGM_i.mp q; omega
                  refine g_iconst F dX8_readsMan_108 (0) (by decide) ?_
                  refine g_istore_n F [(3, .int (J (0))), (0, .ref (ad 8 (0))), (1, .int (J (4 * m))), (4, .int (J (k)))] dX8_readsMan_109 rfl (by decide) rfl ?_
                  refine g_iinc F [(4, .int (J (k + 1))), (3, .int (J (0))), (0, .ref (ad 8 (0))), (1, .int (J (4 * m)))] 3 rfl dX8_readsMan_110 (by decide) rfl ?_
                  refine g_goto F 54 dX8_readsMan_113 rfl ?_
                  refine g_sub [2, 3, 1, 0] (lv' := [(0, .ref (ad 8 (0))), (1, .int (J (4 * m))), (3, .int (J (0))), (4, .int (J (k + 1)))]) rfl ?_
                  exact ih54 ((yU v_86 51 ((4 * m) + (k)) (if (FGM T n p k = true) then T (p + k) - 48 else -9))) (0) (k + 1) (by omega) (by first | exact MK_s hS (by omega) hx hfk | exact MK_f hS (by omega) hx hfk) (by omega)
                · skip
                  have hfk : (FGM T n p k = true) := Decidable.byContradiction (fun q => c_8 (if_neg q))
                  refine g_iconst F dX8_readsMan_104 (1) (by decide) ?_
                  refine g_goto F 109 dX8_readsMan_105 rfl ?_
                  refine g_istore_n F [(3, .int (J (1))), (0, .ref (ad 8 (0))), (1, .int (J (4 * m))), (4, .int (J (k)))] dX8_readsMan_109 rfl (by decide) rfl ?_
                  refine g_iinc F [(4, .int (J (k + 1))), (3, .int (J (1))), (0, .ref (ad 8 (0))), (1, .int (J (4 * m)))] 3 rfl dX8_readsMan_110 (by decide) rfl ?_
                  refine g_goto F 54 dX8_readsMan_113 rfl ?_
                  refine g_sub [2, 3, 1, 0] (lv' := [(0, .ref (ad 8 (0))), (1, .int (J (4 * m))), (3, .int (J (1))), (4, .int (J (k + 1)))]) rfl ?_
                  exact ih54 ((yU v_86 51 ((4 * m) + (k)) (if (FGM T n p k = true) then T (p + k) - 48 else -9))) (1) (k + 1) (by omega) (by first | exact MK_s hS (by omega) hx hfk | exact MK_f hS (by omega) hx hfk) (by omega)
              · skip
                refine g_iconst F dX8_readsMan_80 (1) (by decide) ?_
                refine g_goto F 86 dX8_readsMan_81 rfl ?_
                refine g_callV 2 F (As := [.int (J (0)), .int (J (1))]) (st := [.int (J ((4 * m) + (k))), .ref (ad 51 (0))]) (c_X8_figure l D ad x w y0 t T n (p + k) (m) (0) (1) (by omega) (by omega) (hT) (hb) (hS.1) (by omega) (by omega)) (gR_8) rfl mk_X8_126 ki_X8_figure kc_X8_figure (by decide +kernel) rfl (by decide) dX8_readsMan_86 rfl (Nat.le_of_ble_eq_true rfl) (pH_k (fun v_86 hG_86 => ?_))
                have hK : fgP T n (p + k) 0 1 ↔ (FGM T n p k = true) := by rw [FGM_i]; constructor <;> intro q <;> omega
                have hx : ((FGM T n p k = true) → v_86 = yU w 11 0 (p + k + 1)) ∧ (¬ (FGM T n p k = true) → v_86 = w) := ⟨fun q => hG_86.1 (hK.mpr q), fun q => hG_86.2 (fun r => q (hK.mp r))⟩
                refine g_topi (b := if (FGM T n p k = true) then T (p + k) - 48 else -9) (by by_cases q : (FGM T n p k = true); (rw [if_pos q, if_pos (hK.mpr q)]); (rw [if_neg q, if_neg (fun r => q (hK.mp r))])) ?_
                refine gs_51 F (by omega) dX8_readsMan_89 ?_
                refine g_aload_n F dX8_readsMan_90 rfl 0 rfl ?_
                refine gg_Model_readMen F fk_X8_47 dX8_readsMan_91 ?_
                refine g_iload_n F dX8_readsMan_94 rfl 1 rfl ?_
                refine g_iload F dX8_readsMan_95 3 rfl ?_
                refine g_iadd F dX8_readsMan_97 ?_
                refine ga_51 F (by omega) dX8_readsMan_98 ?_
                refine g_topi (b := if (FGM T n p k = true) then T (p + k) - 48 else -9) (by simp [yU]) ?_
                refine g_bipush F dX8_readsMan_99 (-9) (by decide) ?_
                refine g_icmp_eq 108 F dX8_readsMan_101 (by split <;> omega) (by decide) rfl (fun c_9 => ?_) (fun c_9 => ?_)
                · skip
                  have hfk : ¬ (FGM T n p k = true) := fun q => by rw [if_pos q] at c_9; have := FGM_i.mp q; omega
                  refine g_iconst F dX8_readsMan_108 (0) (by decide) ?_
                  refine g_istore_n F [(3, .int (J (0))), (0, .ref (ad 8 (0))), (1, .int (J (4 * m))), (4, .int (J (k)))] dX8_readsMan_109 rfl (by decide) rfl ?_
                  refine g_iinc F [(4, .int (J (k + 1))), (3, .int (J (0))), (0, .ref (ad 8 (0))), (1, .int (J (4 * m)))] 3 rfl dX8_readsMan_110 (by decide) rfl ?_
                  refine g_goto F 54 dX8_readsMan_113 rfl ?_
                  refine g_sub [2, 3, 1, 0] (lv' := [(0, .ref (ad 8 (0))), (1, .int (J (4 * m))), (3, .int (J (0))), (4, .int (J (k + 1)))]) rfl ?_
                  exact ih54 ((yU v_86 51 ((4 * m) + (k)) (if (FGM T n p k = true) then T (p + k) - 48 else -9))) (0) (k + 1) (by omega) (by first | exact MK_s hS (by omega) hx hfk | exact MK_f hS (by omega) hx hfk) (by omega)
                · skip
                  have hfk : (FGM T n p k = true) := Decidable.byContradiction (fun q => c_9 (if_neg q))
                  refine g_iconst F dX8_readsMan_104 (1) (by decide) ?_
                  refine g_goto F 109 dX8_readsMan_105 rfl ?_
                  refine g_istore_n F [(3, .int (J (1))), (0, .ref (ad 8 (0))), (1, .int (J (4 * m))), (4, .int (J (k)))] dX8_readsMan_109 rfl (by decide) rfl ?_
                  refine g_iinc F [(4, .int (J (k + 1))), (3, .int (J (1))), (0, .ref (ad 8 (0))), (1, .int (J (4 * m)))] 3 rfl dX8_readsMan_110 (by decide) rfl ?_
                  refine g_goto F 54 dX8_readsMan_113 rfl ?_
                  refine g_sub [2, 3, 1, 0] (lv' := [(0, .ref (ad 8 (0))), (1, .int (J (4 * m))), (3, .int (J (1))), (4, .int (J (k + 1)))]) rfl ?_
                  exact ih54 ((yU v_86 51 ((4 * m) + (k)) (if (FGM T n p k = true) then T (p + k) - 48 else -9))) (1) (k + 1) (by omega) (by first | exact MK_s hS (by omega) hx hfk | exact MK_f hS (by omega) hx hfk) (by omega)
      refine g_sub [4, 3, 1, 0] (lv' := [(0, .ref (ad 8 (0))), (1, .int (J (4 * m))), (3, .int (J (1))), (4, .int (J (1)))]) rfl ?_
      exact L54 _ ((yU (yU y 11 (0) ((p) + (1))) 51 (4 * m) (kdO (T p)))) (1) (1) (by omega) (Or.inl ⟨rfl, YS_n (YS_p hY _) (Or.inr rfl) _ _, ⟨by omega, by omega, by omega, by omega⟩, rfl, fun _ => yU_same _ _ _ _, fun j j0 j1 => by omega, fun j j1 => by rw [yU_j (by omega)]; rfl⟩) (Nat.lt_succ_self _)
    · skip
      refine g_iconst F dX8_readsMan_30 (0) (by decide) ?_
      exact g_zreturn F hR dX8_readsMan_31 (by omega) (pH_z (by first | (have he := (MK_e hw (by omega)).1; rw [he]; (have hm6 : m ≠ 6 := by omega); simp only [hm6, ne_eq, not_false_eq_true, and_true]; done) | (have e := mn_no (T := T) (n := n) (p := p); rw [if_neg (by omega)]; done)) (by refine ⟨fun q => ?_, fun q => ?_⟩; (exfalso; have e := mn_no (T := T) (n := n) (p := p); omega); (first | (rw [if_pos (by omega)]; exact hY) | (rw [mn_no (by omega)]; (have e : (if m = 6 then p else p) = p := by split <;> rfl); rw [e]; exact hY))) rfl)
