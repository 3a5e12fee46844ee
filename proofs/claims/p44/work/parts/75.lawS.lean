set_option maxHeartbeats 1000000 in
set_option maxRecDepth 20000 in
theorem law_S {Θ : gT} {l : Launch} {D : gD} {ad : gA} {b : Nat} {L : Nat} {sc : Int → Int} {x : gX} {y : gY} (F : gF Θ l D ad cL_law RL 37 20) (hX : gScr Θ b L sc) (hL : L ≤ 260) (hsc : ∀ j : Int, i32 (sc j)) (hV : INV x) (h17 : ∀ r : Int, 0 ≤ r → r < 10 → x 17 r 0 = -1) (kk : ∀ (v : gX) (w : gY) (lv : List (Nat × Value)), gW Θ l D ad 37 2129 lv [.int (J (1))] v w) : gW Θ l D ad 37 22 [(3, .ref (ad 42 (0))), (2, .ref (ad 41 (0))), (1, .ref (ad 7 (0))), (0, .ref b)] [.ref (ad 43 (0))] x y := by
  refine g_astore F [(4, .ref (ad 43 (0))), (3, .ref (ad 42 (0))), (2, .ref (ad 41 (0))), (1, .ref (ad 7 (0))), (0, .ref b)] dL_law_22 (by decide) rfl ?_
  refine g_aload_n F dL_law_24 rfl 3 rfl ?_
  refine g_aload_n F dL_law_25 rfl 4 rfl ?_
  refine g_aload_n F dL_law_26 rfl 2 rfl ?_
  refine g_aload_n F dL_law_27 rfl 1 rfl ?_
  refine g_callSS 4 F hX (As := [.ref (ad 7 (0)), .ref b, .ref (ad 41 (0)), .ref (ad 42 (0))]) (st := []) (c_L_court l D ad x y b L sc hL hsc  (hV)) rfl mk_L_87 ki_L_court kc_L_court (by decide +kernel) rfl (by decide) dL_law_28 rfl (Nat.le_of_ble_eq_true rfl) (pP_k (fun u_28 v_28 hG_28 => ?_))
  have hC := hG_28
  refine g_if_ne 36 F dL_law_31 (by decide) rfl (fun c_1 => ?_) (fun c_1 => ?_)
  · skip
    refine g_aload_n F dL_law_36 rfl 2 rfl ?_
    refine g_iconst F dL_law_37 (0) (by decide) ?_
    refine ga_41 F (by decide) dL_law_38 ?_
    refine g_topi (b := u_28 10 0 0) (hC.2.1.1) ?_
    refine g_istore F [(5, .int (J (u_28 10 0 0))), (4, .ref (ad 43 (0))), (3, .ref (ad 42 (0))), (2, .ref (ad 41 (0))), (1, .ref (ad 7 (0))), (0, .ref b)] dL_law_39 (by decide) rfl ?_
    refine g_aload_n F dL_law_41 rfl 4 rfl ?_
    refine g_callV 0 F (As := []) (st := []) (c_X7_digest l D ad u_28 v_28  (hC.1)) (gR_7) rfl mk_L_90 ki_X7_digest kc_X7_digest (by decide +kernel) rfl (by decide) dL_law_42 rfl (Nat.le_of_ble_eq_true rfl) (pL_k ?_)
    refine g_nml (P := fun bg => bg = sDigest u_28) (rfl) (fun bg h_bg => ?_)
    refine g_lstore F [(6, .long (Lg (bg))), (5, .int (J (u_28 10 0 0))), (4, .ref (ad 43 (0))), (3, .ref (ad 42 (0))), (2, .ref (ad 41 (0))), (1, .ref (ad 7 (0))), (0, .ref b)] dL_law_45 (by decide) rfl ?_
    refine g_aload_n F dL_law_47 rfl 5 rfl ?_
    refine g_iconst F dL_law_48 (0) (by decide) ?_
    refine g_callV 1 F (As := [.int (J (0))]) (st := []) (c_X7_keep l D ad u_28 v_28 (0) (by omega) (hC.1)) (gR_7) rfl mk_L_94 ki_X7_keep kc_X7_keep (by decide +kernel) rfl (by decide) dL_law_49 rfl (Nat.le_of_ble_eq_true rfl) (pI_k ?_)
    refine g_topi (b := 0) ((beg_ok hC h17).1) ?_
    refine g_nm (P := fun u_49 => BEG u_28 u_49 ∧ PG u_49 v_28 ∧ PV u_49 v_28 ∧ u_49 10 0 0 = u_28 10 0 0) ((beg_ok hC h17).2) (fun u_49 ⟨hB, hp, hq, b10⟩ => ?_)
    refine g_if_eq 57 F dL_law_52 (by decide) rfl (fun c_2 => ?_) (fun c_2 => ?_)
    · skip
      refine g_sub [6, 5, 4, 3, 2, 1, 0] (lv' := [(0, .ref b), (1, .ref (ad 7 (0))), (2, .ref (ad 41 (0))), (3, .ref (ad 42 (0))), (4, .ref (ad 43 (0))), (5, .int (J (u_28 10 0 0))), (6, .long (Lg (bg)))]) rfl ?_
      rw [← b10]
      exact law_L F hX hL hsc hB hp hq h_bg kk
    · skip
      exact absurd c_2 (by decide)
  · skip
    exact absurd c_1 (by decide)
