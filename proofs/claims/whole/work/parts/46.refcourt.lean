set_option maxRecDepth 20000 in
theorem c_X8_fault (l : Launch) (D : gD) (ad : gA) (x : gX) (y : gY) (z : gX) (r : Int) (hr : i32 r) (hRel : Rel z y) : gC l D ad 5 yX8_fault cX8_fault 2 (some .int) [.ref (ad 8 (0)), .int (J (r))] x y (pH (.int (J ((sFault z r).1))) (x) (fun w => Rel (sFault z r).2 w)) := by
  refine g_met RX8 rfl (by decide +kernel) [(0, .ref (ad 8 (0))), (1, .int (J (r)))] rfl (Nat.le_of_ble_eq_true rfl) (fun Θ F hR => ?_)
  have hN := hRel.1.1
  have hRW := hRel.1.2.1
  have hDD := hRel.1.2.2.1
  have hST := hRel.2.1
  have hB := Rel_SB hRel
  have h10 := hN.2.1
  have h15 := hN.2.2.1
  refine g_iload_n F dX8_fault_0 rfl 1 rfl ?_
  refine g_callS 1 F (As := [.int (J (r))]) (st := []) (c_X8_isText l D ad x y (r) (by omega)) rfl mk_X8_103 ki_X8_isText kc_X8_isText (by decide +kernel) rfl (by decide) dX8_fault_1 rfl (Nat.le_of_ble_eq_true rfl) (pB_k ?_)
  refine g_ifb_ne 9 F dX8_fault_4 rfl (fun c_1 => ?_) (fun c_1 => ?_)
  · skip
    have hw := hRW (6 + r) (by omega) (by omega)
    have hw2 : -1 ≤ z 17 (6 + r) 0 ∧ z 17 (6 + r) 0 ≤ 60 := by have := hw.1; split at this <;> omega
    refine g_aload_n F dX8_fault_9 rfl 0 rfl ?_
    refine gg_Model_lengths F fk_X8_31 dX8_fault_10 ?_
    refine g_iload_n F dX8_fault_13 rfl 1 rfl ?_
    refine ga_47 F (by omega) dX8_fault_14 ?_
    refine g_topi (b := z 17 (6 + (r)) 0) ((hRel.2.2.2.1.2 _ (by omega) (by omega)).1) ?_
    refine g_if_ge 26 F dX8_fault_15 (by omega) rfl (fun c_2 => ?_) (fun c_2 => ?_)
    · skip
      refine g_aload_n F dX8_fault_26 rfl 0 rfl ?_
      refine g_iload_n F dX8_fault_27 rfl 1 rfl ?_
      refine g_callV 1 F (As := [.int (J (r))]) (st := []) (c_X8_faultOf l D ad x y z (r) (by omega) (hRel) (by omega)) (gR_8) rfl mk_X8_142 ki_X8_faultOf kc_X8_faultOf (by decide +kernel) rfl (by decide) dX8_fault_28 rfl (Nat.le_of_ble_eq_true rfl) (pH_k (fun v_28 hG_28 => ?_))
      exact g_ireturn F hR dX8_fault_31 (pH_z (by unfold sFault; first | (rw [mRf_a (by omega)]; exact rfl) | (rw [mRf_b (by omega) (by omega)]; exact rfl) | (rw [mRf_c (by omega) (by omega)]; rfl)) (by unfold sFault; first | (rw [mRf_a (by omega)]; exact hRel) | (rw [mRf_b (by omega) (by omega)]; exact Rel_find hRel (by decide)) | (rw [mRf_c (by omega) (by omega)]; exact Rel_ys hRel hG_28.1)) rfl)
    · skip
      refine g_aload_n F dX8_fault_18 rfl 0 rfl ?_
      refine g_iconst F dX8_fault_19 (1) (by decide) ?_
      refine g_callV 1 F (As := [.int (J (1))]) (st := []) (c_X8_find l D ad x y (1) (by omega)) (gR_8) rfl mk_X8_84 ki_X8_find kc_X8_find (by decide +kernel) rfl (by decide) dX8_fault_20 rfl (Nat.le_of_ble_eq_true rfl) (pI_k ?_)
      refine g_goto F 31 dX8_fault_23 rfl ?_
      exact g_ireturn F hR dX8_fault_31 (pH_z (by unfold sFault; first | (rw [mRf_a (by omega)]; exact rfl) | (rw [mRf_b (by omega) (by omega)]; exact rfl) | (rw [mRf_c (by omega) (by omega)]; rfl)) (by unfold sFault; first | (rw [mRf_a (by omega)]; exact hRel) | (rw [mRf_b (by omega) (by omega)]; exact Rel_find hRel (by decide)) | (rw [mRf_c (by omega) (by omega)]; exact Rel_ys hRel hG_28.1)) rfl)
  · skip
    refine g_iconst F dX8_fault_7 (-1) (by decide) ?_
    exact g_ireturn F hR dX8_fault_8 (pH_z (by unfold sFault; first | (rw [mRf_a (by omega)]; exact rfl) | (rw [mRf_b (by omega) (by omega)]; exact rfl) | (rw [mRf_c (by omega) (by omega)]; rfl)) (by unfold sFault; first | (rw [mRf_a (by omega)]; exact hRel) | (rw [mRf_b (by omega) (by omega)]; exact Rel_find hRel (by decide)) | (rw [mRf_c (by omega) (by omega)]; exact Rel_ys hRel hG_28.1)) rfl)

set_option maxRecDepth 20000 in
theorem c_X8_layBegun (l : Launch) (D : gD) (ad : gA) (x : gX) (y : gY)   : gC l D ad 0 yX8_layBegun cX8_layBegun 2 none [.ref (ad 8 (0))] x y (pV (x) (lbY y)) := by
  refine g_met RX8 rfl (by decide +kernel) [(0, .ref (ad 8 (0)))] rfl (Nat.le_of_ble_eq_true rfl) (fun Θ F hR => ?_)
  refine g_iconst F dX8_layBegun_0 (0) (by decide) ?_
  refine g_istore_n F [(1, .int (J (0))), (0, .ref (ad 8 (0)))] dX8_layBegun_1 rfl (by decide) rfl ?_
  have L2 : ∀ (N : Nat) (j : Int), 0 ≤ j ∧ j ≤ 657 → (657 - j).toNat < N → gW Θ l D ad 2 2 [(0, .ref (ad 8 (0))), (1, .int (J (j)))] [] x (zrM y 40 0 0 j) := by
    intro N
    induction N with
    | zero => intro j hj hFu; omega
    | succ N ih2 =>
      intro j hj hFu
      refine g_iload_n F dX8_layBegun_2 rfl 1 rfl ?_
      refine g_sipush F dX8_layBegun_3 (657) (by decide) ?_
      refine g_icmp_ge 22 F dX8_layBegun_6 (by omega) (by decide) rfl (fun c_1 => ?_) (fun c_1 => ?_)
      · skip
        refine g_aload_n F dX8_layBegun_22 rfl 0 rfl ?_
        refine gg_Model_row F fk_X8_7 dX8_layBegun_23 ?_
        refine g_iconst F dX8_layBegun_26 (1) (by decide) ?_
        refine g_bipush F dX8_layBegun_27 (8) (by decide) ?_
        refine gs_40 F (by decide) dX8_layBegun_29 ?_
        refine g_iconst F dX8_layBegun_30 (0) (by decide) ?_
        refine g_istore_n F [(1, .int (J (0))), (0, .ref (ad 8 (0)))] dX8_layBegun_31 rfl (by decide) rfl ?_
        have L32 : ∀ (N : Nat) (j : Int), 0 ≤ j ∧ j ≤ 6 → (6 - j).toNat < N → gW Θ l D ad 2 32 [(0, .ref (ad 8 (0))), (1, .int (J (j)))] [] x (zrM (yU (zrM y 40 0 0 657) 40 1 8) 40 11 (-9) j) := by
          intro N
          induction N with
          | zero => intro j hj hFu; omega
          | succ N ih32 =>
            intro j hj hFu
            refine g_iload_n F dX8_layBegun_32 rfl 1 rfl ?_
            refine g_bipush F dX8_layBegun_33 (6) (by decide) ?_
            refine g_icmp_ge 55 F dX8_layBegun_35 (by omega) (by decide) rfl (fun c_2 => ?_) (fun c_2 => ?_)
            · skip
              refine g_iconst F dX8_layBegun_55 (1) (by decide) ?_
              refine g_istore_n F [(1, .int (J (1))), (0, .ref (ad 8 (0)))] dX8_layBegun_56 rfl (by decide) rfl ?_
              have L57 : ∀ (N : Nat) (j : Int), 1 ≤ j ∧ j ≤ 4 → (4 - j).toNat < N → gW Θ l D ad 2 57 [(0, .ref (ad 8 (0))), (1, .int (J (j)))] [] x (kkM (zrM (yU (zrM y 40 0 0 657) 40 1 8) 40 11 (-9) 6) j) := by
                intro N
                induction N with
                | zero => intro j hj hFu; omega
                | succ N ih57 =>
                  intro j hj hFu
                  refine g_iload_n F dX8_layBegun_57 rfl 1 rfl ?_
                  refine g_iconst F dX8_layBegun_58 (4) (by decide) ?_
                  refine g_icmp_ge 81 F dX8_layBegun_59 (by omega) (by decide) rfl (fun c_3 => ?_) (fun c_3 => ?_)
                  · skip
                    exact g_vreturn F hR dX8_layBegun_81 (pV_i rfl (by rw [show j = 4 by omega]; rfl))
                  · skip
                    refine g_aload_n F dX8_layBegun_62 rfl 0 rfl ?_
                    refine gg_Model_row F fk_X8_7 dX8_layBegun_63 ?_
                    refine g_sipush F dX8_layBegun_66 (657) (by decide) ?_
                    refine g_iload_n F dX8_layBegun_69 rfl 1 rfl ?_
                    refine g_imul F dX8_layBegun_70 ?_
                    refine g_iconst F dX8_layBegun_71 (0) (by decide) ?_
                    refine g_iadd F dX8_layBegun_72 ?_
                    refine g_iconst F dX8_layBegun_73 (-1) (by decide) ?_
                    refine gs_40 F (by omega) dX8_layBegun_74 ?_
                    refine g_iinc F [(1, .int (J (j + 1))), (0, .ref (ad 8 (0)))] 1 rfl dX8_layBegun_75 (by decide) rfl ?_
                    refine g_goto F 57 dX8_layBegun_78 rfl ?_
                    refine g_sub [1, 0] (lv' := [(0, .ref (ad 8 (0))), (1, .int (J (j + 1)))]) rfl ?_
                    exact gW_eq (ih57 (j + 1) (by omega) (by omega)) rfl rfl rfl (rfl) (kkM_s _ (by omega))
              refine g_sub [1, 0] (lv' := [(0, .ref (ad 8 (0))), (1, .int (J (1)))]) rfl ?_
              exact gW_eq (L57 _ (1) (by omega) (Nat.lt_succ_self _)) rfl rfl rfl (rfl) (by rw [show j = 6 by omega]; exact (kkM_1 _).symm)
            · skip
              refine g_aload_n F dX8_layBegun_38 rfl 0 rfl ?_
              refine gg_Model_row F fk_X8_7 dX8_layBegun_39 ?_
              refine g_bipush F dX8_layBegun_42 (11) (by decide) ?_
              refine g_iload_n F dX8_layBegun_44 rfl 1 rfl ?_
              refine g_iadd F dX8_layBegun_45 ?_
              refine g_bipush F dX8_layBegun_46 (-9) (by decide) ?_
              refine gs_40 F (by omega) dX8_layBegun_48 ?_
              refine g_iinc F [(1, .int (J (j + 1))), (0, .ref (ad 8 (0)))] 1 rfl dX8_layBegun_49 (by decide) rfl ?_
              refine g_goto F 32 dX8_layBegun_52 rfl ?_
              refine g_sub [1, 0] (lv' := [(0, .ref (ad 8 (0))), (1, .int (J (j + 1)))]) rfl ?_
              exact gW_eq (ih32 (j + 1) (by omega) (by omega)) rfl rfl rfl (rfl) (zrM_s _ _ _ _ (by omega))
        refine g_sub [1, 0] (lv' := [(0, .ref (ad 8 (0))), (1, .int (J (0)))]) rfl ?_
        exact gW_eq (L32 _ (0) (by omega) (Nat.lt_succ_self _)) rfl rfl rfl (rfl) (by rw [show j = 657 by omega]; exact (zrM_0 _ _ _ _).symm)
      · skip
        refine g_aload_n F dX8_layBegun_9 rfl 0 rfl ?_
        refine gg_Model_row F fk_X8_7 dX8_layBegun_10 ?_
        refine g_iload_n F dX8_layBegun_13 rfl 1 rfl ?_
        refine g_iconst F dX8_layBegun_14 (0) (by decide) ?_
        refine gs_40 F (by omega) dX8_layBegun_15 ?_
        refine g_iinc F [(1, .int (J (j + 1))), (0, .ref (ad 8 (0)))] 1 rfl dX8_layBegun_16 (by decide) rfl ?_
        refine g_goto F 2 dX8_layBegun_19 rfl ?_
        refine g_sub [1, 0] (lv' := [(0, .ref (ad 8 (0))), (1, .int (J (j + 1)))]) rfl ?_
        exact gW_eq (ih2 (j + 1) (by omega) (by omega)) rfl rfl rfl (rfl) (zrM_s0 _ _ _ (by omega))
  refine g_sub [1, 0] (lv' := [(0, .ref (ad 8 (0))), (1, .int (J (0)))]) rfl ?_
  exact gW_eq (L2 _ (0) (by omega) (Nat.lt_succ_self _)) rfl rfl rfl (rfl) ((zrM_0 _ _ _ _).symm)

set_option maxRecDepth 20000 in
theorem c_X8_court (l : Launch) (D : gD) (ad : gA) (x : gX) (y : gY) (z : gX) (r : Int) (hr : i32 r) (hRel : Rel z y) : gC l D ad 5 yX8_court cX8_court 3 (some .int) [.ref (ad 8 (0)), .int (J (r))] x y (pH (.int (J ((sCourt z r).1))) (x) (fun w => Rel (sCourt z r).2 w)) := by
  refine g_met RX8 rfl (by decide +kernel) [(0, .ref (ad 8 (0))), (1, .int (J (r)))] rfl (Nat.le_of_ble_eq_true rfl) (fun Θ F hR => ?_)
  have hN := hRel.1.1
  have hRW := hRel.1.2.1
  have hDD := hRel.1.2.2.1
  have hST := hRel.2.1
  have hB := Rel_SB hRel
  have h10 := hN.2.1
  have h15 := hN.2.2.1
  refine g_iload_n F dX8_court_0 rfl 1 rfl ?_
  refine g_callS 1 F (As := [.int (J (r))]) (st := []) (c_X8_isText l D ad x y (r) (by omega)) rfl mk_X8_103 ki_X8_isText kc_X8_isText (by decide +kernel) rfl (by decide) dX8_court_1 rfl (Nat.le_of_ble_eq_true rfl) (pB_k ?_)
  refine g_ifb_ne 9 F dX8_court_4 rfl (fun c_1 => ?_) (fun c_1 => ?_)
  · skip
    have hw := hRW (6 + r) (by omega) (by omega)
    have hw2 : -1 ≤ z 17 (6 + r) 0 ∧ z 17 (6 + r) 0 ≤ 60 := by have := hw.1; split at this <;> omega
    refine g_aload_n F dX8_court_9 rfl 0 rfl ?_
    refine gg_Model_lengths F fk_X8_31 dX8_court_10 ?_
    refine g_iload_n F dX8_court_13 rfl 1 rfl ?_
    refine ga_47 F (by omega) dX8_court_14 ?_
    refine g_topi (b := z 17 (6 + (r)) 0) ((hRel.2.2.2.1.2 _ (by omega) (by omega)).1) ?_
    refine g_if_ge 24 F dX8_court_15 (by omega) rfl (fun c_2 => ?_) (fun c_2 => ?_)
    · skip
      refine g_aload_n F dX8_court_24 rfl 0 rfl ?_
      refine g_iload_n F dX8_court_25 rfl 1 rfl ?_
      refine g_callV 1 F (As := [.int (J (r))]) (st := []) (c_X8_faultOf l D ad x y z (r) (by omega) (hRel) (by omega)) (gR_8) rfl mk_X8_142 ki_X8_faultOf kc_X8_faultOf (by decide +kernel) rfl (by decide) dX8_court_26 rfl (Nat.le_of_ble_eq_true rfl) (pH_k (fun v_26 hG_26 => ?_))
      have hrd : -9 ≤ rdF (z 20 (6 + r)) (z 17 (6 + r) 0) ∧ rdF (z 20 (6 + r)) (z 17 (6 + r) 0) ≤ 1000 := rdF_r (by omega)
      refine g_bipush F dX8_court_29 (-9) (by decide) ?_
      refine g_icmp_eq 37 F dX8_court_31 (by omega) (by decide) rfl (fun c_3 => ?_) (fun c_3 => ?_)
      · skip
        have hok := rd_ok (t := z 20 (6 + r)) (n := z 17 (6 + r) 0) (by omega)
        have h13 := (hG_26.2 (by omega)).1
        refine g_aload_n F dX8_court_37 rfl 0 rfl ?_
        refine g_aload_n F dX8_court_38 rfl 0 rfl ?_
        refine gg_Model_readCourt F fk_X8_44 dX8_court_39 ?_
        refine g_iconst F dX8_court_42 (0) (by decide) ?_
        refine ga_50 F (by decide) dX8_court_43 ?_
        refine gp_Model_pounds F fk_X8_145 dX8_court_44 ?_
        refine g_aload_n F dX8_court_47 rfl 0 rfl ?_
        refine g_aload_n F dX8_court_48 rfl 0 rfl ?_
        refine gg_Model_readCourt F fk_X8_44 dX8_court_49 ?_
        refine g_iconst F dX8_court_52 (1) (by decide) ?_
        refine ga_50 F (by decide) dX8_court_53 ?_
        refine g_topi (b := v_26 50 (1)) (by simp [yU]) ?_
        refine gp_Model_mercy F fk_X8_148 dX8_court_54 ?_
        refine g_aload_n F dX8_court_57 rfl 0 rfl ?_
        refine g_aload_n F dX8_court_58 rfl 0 rfl ?_
        refine gg_Model_readCourt F fk_X8_44 dX8_court_59 ?_
        refine g_iconst F dX8_court_62 (2) (by decide) ?_
        refine ga_50 F (by decide) dX8_court_63 ?_
        refine g_topi (b := v_26 50 (2)) (by simp [yU]) ?_
        refine gp_Model_heals F fk_X8_151 dX8_court_64 ?_
        refine g_aload_n F dX8_court_67 rfl 0 rfl ?_
        refine g_aload_n F dX8_court_68 rfl 0 rfl ?_
        refine gg_Model_readCourt F fk_X8_44 dX8_court_69 ?_
        refine g_iconst F dX8_court_72 (3) (by decide) ?_
        refine ga_50 F (by decide) dX8_court_73 ?_
        refine g_topi (b := v_26 50 (3)) (by simp [yU]) ?_
        refine gp_Model_king F fk_X8_154 dX8_court_74 ?_
        refine g_aload_n F dX8_court_77 rfl 0 rfl ?_
        refine g_aload_n F dX8_court_78 rfl 0 rfl ?_
        refine gg_Model_readMany F fk_X8_129 dX8_court_79 ?_
        refine g_topi (b := v_26 13 (0)) (by simp [yU]) ?_
        refine gp_Model_men F fk_X8_157 dX8_court_82 ?_
        refine g_iconst F dX8_court_85 (0) (by decide) ?_
        refine g_istore_n F [(2, .int (J (0))), (0, .ref (ad 8 (0))), (1, .int (J (r)))] dX8_court_86 rfl (by decide) rfl ?_
        have L87 : ∀ (N : Nat) (j : Int), 0 ≤ j ∧ j ≤ rcF (z 20 (6 + r)) (z 17 (6 + r) 0) → (rcF (z 20 (6 + r)) (z 17 (6 + r) 0) - j).toNat < N → gW Θ l D ad 3 87 [(0, .ref (ad 8 (0))), (2, .int (J (j)))] [] x (coY v_26 j) := by
          intro N
          induction N with
          | zero => intro j hj hFu; omega
          | succ N ih87 =>
            intro j hj hFu
            refine g_iload_n F dX8_court_87 rfl 1 rfl ?_
            refine g_aload_n F dX8_court_88 rfl 0 rfl ?_
            refine gg_Model_men F fk_X8_157 dX8_court_89 ?_
            refine g_topi (b := rcF (z 20 (6 + r)) (z 17 (6 + r) 0)) (by rw [coY_k _ _ (by decide)]; exact h13) ?_
            refine g_icmp_ge 163 F dX8_court_92 (by omega) (by omega) rfl (fun c_4 => ?_) (fun c_4 => ?_)
            · skip
              refine g_aload_n F dX8_court_163 rfl 0 rfl ?_
              refine g_callV 0 F (As := []) (st := []) (c_X8_layBegun l D ad x (coY v_26 j)  ) (gR_8) rfl mk_X8_62 ki_X8_layBegun kc_X8_layBegun (by decide +kernel) rfl (by decide) dX8_court_164 rfl (Nat.le_of_ble_eq_true rfl) (pV_k ?_)
              refine g_aload_n F dX8_court_167 rfl 0 rfl ?_
              refine gg_Model_men F fk_X8_157 dX8_court_168 ?_
              refine g_topi (b := rcF (z 20 (6 + r)) (z 17 (6 + r) 0)) (by rw [lbY_k _ (by decide), coY_k _ _ (by decide)]; exact h13) ?_
              exact g_ireturn F hR dX8_court_171 (pH_z (by first | (rw [sCourt_a (by omega)]; done) | (rw [sCourt_b (by omega) (by omega)]; done) | (rw [sCourt_c (by omega) (by omega) (by omega)]; done) | (rw [sCourt_d (by omega) (by omega) (by omega)]; done)) (by first | (rw [sCourt_a (by omega)]; exact hRel) | (rw [sCourt_b (by omega) (by omega)]; exact Rel_find hRel (by decide)) | (rw [sCourt_c (by omega) (by omega) (by omega)]; exact Rel_ys hRel hG_26.1) | (rw [sCourt_d (by omega) (by omega) (by omega)]; rw [show j = rcF (z 20 (6 + r)) (z 17 (6 + r) 0) by omega]; exact Rel_court hRel (by omega) hG_26 (by omega))) rfl)
            · skip
              refine g_aload_n F dX8_court_95 rfl 0 rfl ?_
              refine gg_Model_kinds F fk_X8_13 dX8_court_96 ?_
              refine g_iload_n F dX8_court_99 rfl 1 rfl ?_
              refine g_aload_n F dX8_court_100 rfl 0 rfl ?_
              refine gg_Model_readMen F fk_X8_47 dX8_court_101 ?_
              refine g_iconst F dX8_court_104 (4) (by decide) ?_
              refine g_iload_n F dX8_court_105 rfl 1 rfl ?_
              refine g_imul F dX8_court_106 ?_
              refine ga_51 F (by omega) dX8_court_107 ?_
              refine g_topi (b := v_26 51 ((4) * (j))) (coY_51 _ _ _) ?_
              refine gs_41 F (by omega) dX8_court_108 ?_
              refine g_aload_n F dX8_court_109 rfl 0 rfl ?_
              refine gg_Model_guilts F fk_X8_16 dX8_court_110 ?_
              refine g_iload_n F dX8_court_113 rfl 1 rfl ?_
              refine g_aload_n F dX8_court_114 rfl 0 rfl ?_
              refine gg_Model_readMen F fk_X8_47 dX8_court_115 ?_
              refine g_iconst F dX8_court_118 (4) (by decide) ?_
              refine g_iload_n F dX8_court_119 rfl 1 rfl ?_
              refine g_imul F dX8_court_120 ?_
              refine g_iconst F dX8_court_121 (1) (by decide) ?_
              refine g_iadd F dX8_court_122 ?_
              refine ga_51 F (by omega) dX8_court_123 ?_
              refine g_topi (b := (coY v_26 j) 51 (((4) * (j)) + (1))) (by simp [yU]) ?_
              refine g_topi (b := v_26 51 (((4) * (j)) + (1))) (coY_51 _ _ _) ?_
              refine gs_42 F (by omega) dX8_court_124 ?_
              refine g_aload_n F dX8_court_125 rfl 0 rfl ?_
              refine gg_Model_beliefs F fk_X8_19 dX8_court_126 ?_
              refine g_iload_n F dX8_court_129 rfl 1 rfl ?_
              refine g_aload_n F dX8_court_130 rfl 0 rfl ?_
              refine gg_Model_readMen F fk_X8_47 dX8_court_131 ?_
              refine g_iconst F dX8_court_134 (4) (by decide) ?_
              refine g_iload_n F dX8_court_135 rfl 1 rfl ?_
              refine g_imul F dX8_court_136 ?_
              refine g_iconst F dX8_court_137 (2) (by decide) ?_
              refine g_iadd F dX8_court_138 ?_
              refine ga_51 F (by omega) dX8_court_139 ?_
              refine g_topi (b := (coY v_26 j) 51 (((4) * (j)) + (2))) (by simp [yU]) ?_
              refine g_topi (b := v_26 51 (((4) * (j)) + (2))) (coY_51 _ _ _) ?_
              refine gs_43 F (by omega) dX8_court_140 ?_
              refine g_aload_n F dX8_court_141 rfl 0 rfl ?_
              refine gg_Model_hands F fk_X8_22 dX8_court_142 ?_
              refine g_iload_n F dX8_court_145 rfl 1 rfl ?_
              refine g_aload_n F dX8_court_146 rfl 0 rfl ?_
              refine gg_Model_readMen F fk_X8_47 dX8_court_147 ?_
              refine g_iconst F dX8_court_150 (4) (by decide) ?_
              refine g_iload_n F dX8_court_151 rfl 1 rfl ?_
              refine g_imul F dX8_court_152 ?_
              refine g_iconst F dX8_court_153 (3) (by decide) ?_
              refine g_iadd F dX8_court_154 ?_
              refine ga_51 F (by omega) dX8_court_155 ?_
              refine g_topi (b := (coY v_26 j) 51 (((4) * (j)) + (3))) (by simp [yU]) ?_
              refine g_topi (b := v_26 51 (((4) * (j)) + (3))) (coY_51 _ _ _) ?_
              refine gs_44 F (by omega) dX8_court_156 ?_
              refine g_iinc F [(2, .int (J (j + 1))), (0, .ref (ad 8 (0)))] 1 rfl dX8_court_157 (by decide) rfl ?_
              refine g_goto F 87 dX8_court_160 rfl ?_
              refine g_sub [1, 0] (lv' := [(0, .ref (ad 8 (0))), (2, .int (J (j + 1)))]) rfl ?_
              exact gW_eq (ih87 (j + 1) (by omega) (by omega)) rfl rfl rfl (rfl) (coY_s _ (by omega))
        refine g_sub [1, 0] (lv' := [(0, .ref (ad 8 (0))), (2, .int (J (0)))]) rfl ?_
        exact gW_eq (L87 _ (0) (by omega) (Nat.lt_succ_self _)) rfl rfl rfl (rfl) (by rw [coY_0]; rfl)
      · skip
        refine g_bipush F dX8_court_34 (-4) (by decide) ?_
        exact g_ireturn F hR dX8_court_36 (pH_z (by first | (rw [sCourt_a (by omega)]; done) | (rw [sCourt_b (by omega) (by omega)]; done) | (rw [sCourt_c (by omega) (by omega) (by omega)]; done) | (rw [sCourt_d (by omega) (by omega) (by omega)]; done)) (by first | (rw [sCourt_a (by omega)]; exact hRel) | (rw [sCourt_b (by omega) (by omega)]; exact Rel_find hRel (by decide)) | (rw [sCourt_c (by omega) (by omega) (by omega)]; exact Rel_ys hRel hG_26.1) | (rw [sCourt_d (by omega) (by omega) (by omega)]; rw [show j = rcF (z 20 (6 + r)) (z 17 (6 + r) 0) by omega]; exact Rel_court hRel (by omega) hG_26 (by omega))) rfl)
    · skip
      refine g_aload_n F dX8_court_18 rfl 0 rfl ?_
      refine g_iconst F dX8_court_19 (1) (by decide) ?_
      refine g_callV 1 F (As := [.int (J (1))]) (st := []) (c_X8_find l D ad x y (1) (by omega)) (gR_8) rfl mk_X8_84 ki_X8_find kc_X8_find (by decide +kernel) rfl (by decide) dX8_court_20 rfl (Nat.le_of_ble_eq_true rfl) (pI_k ?_)
      exact g_ireturn F hR dX8_court_23 (pH_z (by first | (rw [sCourt_a (by omega)]; done) | (rw [sCourt_b (by omega) (by omega)]; done) | (rw [sCourt_c (by omega) (by omega) (by omega)]; done) | (rw [sCourt_d (by omega) (by omega) (by omega)]; done)) (by first | (rw [sCourt_a (by omega)]; exact hRel) | (rw [sCourt_b (by omega) (by omega)]; exact Rel_find hRel (by decide)) | (rw [sCourt_c (by omega) (by omega) (by omega)]; exact Rel_ys hRel hG_26.1) | (rw [sCourt_d (by omega) (by omega) (by omega)]; rw [show j = rcF (z 20 (6 + r)) (z 17 (6 + r) 0) by omega]; exact Rel_court hRel (by omega) hG_26 (by omega))) rfl)
  · skip
    refine g_iconst F dX8_court_7 (-1) (by decide) ?_
    exact g_ireturn F hR dX8_court_8 (pH_z (by first | (rw [sCourt_a (by omega)]; done) | (rw [sCourt_b (by omega) (by omega)]; done) | (rw [sCourt_c (by omega) (by omega) (by omega)]; done) | (rw [sCourt_d (by omega) (by omega) (by omega)]; done)) (by first | (rw [sCourt_a (by omega)]; exact hRel) | (rw [sCourt_b (by omega) (by omega)]; exact Rel_find hRel (by decide)) | (rw [sCourt_c (by omega) (by omega) (by omega)]; exact Rel_ys hRel hG_26.1) | (rw [sCourt_d (by omega) (by omega) (by omega)]; rw [show j = rcF (z 20 (6 + r)) (z 17 (6 + r) 0) by omega]; exact Rel_court hRel (by omega) hG_26 (by omega))) rfl)
