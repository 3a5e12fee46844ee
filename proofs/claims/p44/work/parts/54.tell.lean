set_option maxRecDepth 20000 in
theorem c_L_tell (l : Launch) (D : gD) (ad : gA) (x : gX) (y : gY) (i w : Int) (hV : INV x) (hi : 0 ≤ i ∧ i < x 10 0 0) (hw : 0 ≤ w ∧ w ≤ 8) : gC l D ad 5 yL_tell cL_tell 3 (some .int) [.ref (ad 7 (0)), .int (J (i)), .int (J (w))] x y (pI (dU x i w) (xU x 19 0 0 (dU x i w)) (y)) := by
  refine g_met RL rfl (by decide +kernel) [(0, .ref (ad 7 (0))), (1, .int (J (i))), (2, .int (J (w)))] rfl (Nat.le_of_ble_eq_true rfl) (fun Θ F hR => ?_)
  have e : sMan x i w = (1, xU x 19 0 0 (dU x i w)) := by
    unfold sMan
    rw [if_neg]
    rintro (c | c | c)
    · exact c hi
    · omega
    · omega
  have h10 := hV.1.2.1
  refine g_aload_n F dL_tell_0 rfl 0 rfl ?_
  refine g_iload_n F dL_tell_1 rfl 1 rfl ?_
  refine g_iload_n F dL_tell_2 rfl 2 rfl ?_
  refine g_callV 2 F (As := [.int (J (i)), .int (J (w))]) (st := []) (c_X7_man l D ad x y (i) (w) (by omega) (by omega) (hV)) (gR_7) rfl mk_L_83 ki_X7_man kc_X7_man (by decide +kernel) rfl (by decide) dL_tell_3 rfl (Nat.le_of_ble_eq_true rfl) (pI_k ?_)
  refine g_mx (X := xU x 19 0 0 (dU x i w)) (by rw [e]) ?_
  refine g_topi (b := 1) (by rw [e]) ?_
  refine g_iconst F dL_tell_6 (1) (by decide) ?_
  refine g_icmp_ne 17 F dL_tell_7 (by decide) (by decide) rfl (fun c_1 => ?_) (fun c_1 => ?_)
  · skip
    exact absurd rfl c_1
  · skip
    refine g_aload_n F dL_tell_10 rfl 0 rfl ?_
    refine g_callV 0 F (As := []) (st := []) (c_X7_asked l D ad (xU x 19 0 0 (dU x i w)) y  ) (gR_7) rfl mk_L_73 ki_X7_asked kc_X7_asked (by decide +kernel) rfl (by decide) dL_tell_11 rfl (Nat.le_of_ble_eq_true rfl) (pI_k ?_)
    refine g_goto F 19 dL_tell_14 rfl ?_
    exact g_ireturn F hR dL_tell_19 (pI_i (by exact xU_same _ _ _ _ _) (by rfl) rfl)
