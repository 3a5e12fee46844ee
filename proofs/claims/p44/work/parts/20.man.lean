set_option maxRecDepth 20000 in
theorem c_X3_isTried (l : Launch) (D : gD) (ad : gA) (x : gX) (y : gY) (i : Int) (hi : 0 ≤ i ∧ i < 7) (hm : MOK x i) : gC l D ad 0 yX3_isTried cX3_isTried 1 (some .boolean) [.ref (ad 3 (i))] x y (pB (x 6 i 0 ≠ -9) (x) (y)) := by
  refine g_met RX3 rfl (by decide +kernel) [(0, .ref (ad 3 (i)))] rfl (Nat.le_of_ble_eq_true rfl) (fun Θ F hR => ?_)
  refine g_aload_n F dX3_isTried_0 rfl 0 rfl ?_
  refine gg_Man_verdict F (by omega) fk_X3_9 dX3_isTried_1 ?_
  refine g_bipush F dX3_isTried_4 (-9) (by decide) ?_
  refine g_icmp_eq 13 F dX3_isTried_6 (by omega) (by decide) rfl (fun c_1 => ?_) (fun c_1 => ?_)
  · skip
    refine g_iconst F dX3_isTried_13 (0) (by decide) ?_
    exact g_zreturn F hR dX3_isTried_14 (by omega) (pB_i (by split <;> omega) rfl rfl)
  · skip
    refine g_iconst F dX3_isTried_9 (1) (by decide) ?_
    refine g_goto F 14 dX3_isTried_10 rfl ?_
    exact g_zreturn F hR dX3_isTried_14 (by omega) (pB_i (by split <;> omega) rfl rfl)

set_option maxRecDepth 20000 in
theorem c_X3_isOf (l : Launch) (D : gD) (ad : gA) (x : gX) (y : gY) (i k : Int) (hi : 0 ≤ i ∧ i < 7) (hm : MOK x i) (hk : 0 ≤ k ∧ k ≤ 5) : gC l D ad 0 yX3_isOf cX3_isOf 2 (some .boolean) [.ref (ad 3 (i)), .int (J (k))] x y (pB (sOf (x 1 i 0) k) (x) (y)) := by
  refine g_met RX3 rfl (by decide +kernel) [(0, .ref (ad 3 (i))), (1, .int (J (k)))] rfl (Nat.le_of_ble_eq_true rfl) (fun Θ F hR => ?_)
  refine g_aload_n F dX3_isOf_0 rfl 0 rfl ?_
  refine gg_Man_kind F (by omega) fk_X3_15 dX3_isOf_1 ?_
  refine g_iload_n F dX3_isOf_4 rfl 1 rfl ?_
  refine g_icmp_eq 38 F dX3_isOf_5 (by omega) (by omega) rfl (fun c_1 => ?_) (fun c_1 => ?_)
  · skip
    refine g_iconst F dX3_isOf_38 (1) (by decide) ?_
    refine g_goto F 43 dX3_isOf_39 rfl ?_
    exact g_zreturn F hR dX3_isOf_43 (by omega) (pB_i (by split <;> omega) rfl rfl)
  · skip
    refine g_iload_n F dX3_isOf_8 rfl 1 rfl ?_
    refine g_if_eq 38 F dX3_isOf_9 (by omega) rfl (fun c_2 => ?_) (fun c_2 => ?_)
    · skip
      refine g_iconst F dX3_isOf_38 (1) (by decide) ?_
      refine g_goto F 43 dX3_isOf_39 rfl ?_
      exact g_zreturn F hR dX3_isOf_43 (by omega) (pB_i (by split <;> omega) rfl rfl)
    · skip
      refine g_iload_n F dX3_isOf_12 rfl 1 rfl ?_
      refine g_iconst F dX3_isOf_13 (1) (by decide) ?_
      refine g_icmp_ne 25 F dX3_isOf_14 (by omega) (by decide) rfl (fun c_3 => ?_) (fun c_3 => ?_)
      · skip
        refine g_iload_n F dX3_isOf_25 rfl 1 rfl ?_
        refine g_iconst F dX3_isOf_26 (2) (by decide) ?_
        refine g_icmp_ne 42 F dX3_isOf_27 (by omega) (by decide) rfl (fun c_4 => ?_) (fun c_4 => ?_)
        · skip
          refine g_iconst F dX3_isOf_42 (0) (by decide) ?_
          exact g_zreturn F hR dX3_isOf_43 (by omega) (pB_i (by split <;> omega) rfl rfl)
        · skip
          refine g_aload_n F dX3_isOf_30 rfl 0 rfl ?_
          refine gg_Man_kind F (by omega) fk_X3_15 dX3_isOf_31 ?_
          refine g_iconst F dX3_isOf_34 (5) (by decide) ?_
          refine g_icmp_ne 42 F dX3_isOf_35 (by omega) (by decide) rfl (fun c_5 => ?_) (fun c_5 => ?_)
          · skip
            refine g_iconst F dX3_isOf_42 (0) (by decide) ?_
            exact g_zreturn F hR dX3_isOf_43 (by omega) (pB_i (by split <;> omega) rfl rfl)
          · skip
            refine g_iconst F dX3_isOf_38 (1) (by decide) ?_
            refine g_goto F 43 dX3_isOf_39 rfl ?_
            exact g_zreturn F hR dX3_isOf_43 (by omega) (pB_i (by split <;> omega) rfl rfl)
      · skip
        refine g_aload_n F dX3_isOf_17 rfl 0 rfl ?_
        refine gg_Man_kind F (by omega) fk_X3_15 dX3_isOf_18 ?_
        refine g_iconst F dX3_isOf_21 (4) (by decide) ?_
        refine g_icmp_eq 38 F dX3_isOf_22 (by omega) (by decide) rfl (fun c_6 => ?_) (fun c_6 => ?_)
        · skip
          refine g_iconst F dX3_isOf_38 (1) (by decide) ?_
          refine g_goto F 43 dX3_isOf_39 rfl ?_
          exact g_zreturn F hR dX3_isOf_43 (by omega) (pB_i (by split <;> omega) rfl rfl)
        · skip
          refine g_iload_n F dX3_isOf_25 rfl 1 rfl ?_
          refine g_iconst F dX3_isOf_26 (2) (by decide) ?_
          refine g_icmp_ne 42 F dX3_isOf_27 (by omega) (by decide) rfl (fun c_7 => ?_) (fun c_7 => ?_)
          · skip
            refine g_iconst F dX3_isOf_42 (0) (by decide) ?_
            exact g_zreturn F hR dX3_isOf_43 (by omega) (pB_i (by split <;> omega) rfl rfl)
          · skip
            refine g_aload_n F dX3_isOf_30 rfl 0 rfl ?_
            refine gg_Man_kind F (by omega) fk_X3_15 dX3_isOf_31 ?_
            refine g_iconst F dX3_isOf_34 (5) (by decide) ?_
            refine g_icmp_ne 42 F dX3_isOf_35 (by omega) (by decide) rfl (fun c_8 => ?_) (fun c_8 => ?_)
            · skip
              refine g_iconst F dX3_isOf_42 (0) (by decide) ?_
              exact g_zreturn F hR dX3_isOf_43 (by omega) (pB_i (by split <;> omega) rfl rfl)
            · skip
              refine g_iconst F dX3_isOf_38 (1) (by decide) ?_
              refine g_goto F 43 dX3_isOf_39 rfl ?_
              exact g_zreturn F hR dX3_isOf_43 (by omega) (pB_i (by split <;> omega) rfl rfl)

set_option maxRecDepth 20000 in
theorem c_X3_hardness (l : Launch) (D : gD) (ad : gA) (x : gX) (y : gY) (i : Int) (hi : 0 ≤ i ∧ i < 7) (hm : MOK x i) : gC l D ad 0 yX3_hardness cX3_hardness 1 (some .int) [.ref (ad 3 (i))] x y (pI (sHard (x 1 i 0) (x 4 i 0)) (x) (y)) := by
  refine g_met RX3 rfl (by decide +kernel) [(0, .ref (ad 3 (i)))] rfl (Nat.le_of_ble_eq_true rfl) (fun Θ F hR => ?_)
  refine g_aload_n F dX3_hardness_0 rfl 0 rfl ?_
  refine gg_Man_kind F (by omega) fk_X3_15 dX3_hardness_1 ?_
  have rs_1 : i32 (x 1 (i) (0)) := (by omega)
  rcases (show x 1 (i) (0) = 1 ∨ x 1 (i) (0) = 2 ∨ x 1 (i) (0) = 3 ∨ x 1 (i) (0) = 4 ∨ x 1 (i) (0) = 5 ∨ (x 1 (i) (0) ≠ 1 ∧ x 1 (i) (0) ≠ 2 ∧ x 1 (i) (0) ≠ 3 ∧ x 1 (i) (0) ≠ 4 ∧ x 1 (i) (0) ≠ 5) by omega) with s_1 | s_1 | s_1 | s_1 | s_1 | s_1
  · skip
    refine g_switch F 40 dX3_hardness_4 rs_1 (by omega) (by omega) (by rw [s_1]; rfl) rfl ?_
    refine g_aload_n F dX3_hardness_40 rfl 0 rfl ?_
    refine gg_Man_hand F (by omega) fk_X3_24 dX3_hardness_41 ?_
    refine g_iconst F dX3_hardness_44 (3) (by decide) ?_
    refine g_iadd F dX3_hardness_45 ?_
    exact g_ireturn F hR dX3_hardness_46 (pI_i (by unfold sHard; (repeat' split) <;> omega) rfl rfl)
  · skip
    refine g_switch F 54 dX3_hardness_4 rs_1 (by omega) (by omega) (by rw [s_1]; rfl) rfl ?_
    refine g_aload_n F dX3_hardness_54 rfl 0 rfl ?_
    refine gg_Man_hand F (by omega) fk_X3_24 dX3_hardness_55 ?_
    refine g_iconst F dX3_hardness_58 (2) (by decide) ?_
    refine g_idivp F dX3_hardness_59 (by omega) (by decide) (by omega) (by decide) ?_
    exact g_ireturn F hR dX3_hardness_60 (pI_i (by unfold sHard; (repeat' split) <;> omega) rfl rfl)
  · skip
    refine g_switch F 61 dX3_hardness_4 rs_1 (by omega) (by omega) (by rw [s_1]; rfl) rfl ?_
    refine g_aload_n F dX3_hardness_61 rfl 0 rfl ?_
    refine gg_Man_hand F (by omega) fk_X3_24 dX3_hardness_62 ?_
    exact g_ireturn F hR dX3_hardness_65 (pI_i (by unfold sHard; (repeat' split) <;> omega) rfl rfl)
  · skip
    refine g_switch F 47 dX3_hardness_4 rs_1 (by omega) (by omega) (by rw [s_1]; rfl) rfl ?_
    refine g_aload_n F dX3_hardness_47 rfl 0 rfl ?_
    refine gg_Man_hand F (by omega) fk_X3_24 dX3_hardness_48 ?_
    refine g_iconst F dX3_hardness_51 (5) (by decide) ?_
    refine g_iadd F dX3_hardness_52 ?_
    exact g_ireturn F hR dX3_hardness_53 (pI_i (by unfold sHard; (repeat' split) <;> omega) rfl rfl)
  · skip
    refine g_switch F 54 dX3_hardness_4 rs_1 (by omega) (by omega) (by rw [s_1]; rfl) rfl ?_
    refine g_aload_n F dX3_hardness_54 rfl 0 rfl ?_
    refine gg_Man_hand F (by omega) fk_X3_24 dX3_hardness_55 ?_
    refine g_iconst F dX3_hardness_58 (2) (by decide) ?_
    refine g_idivp F dX3_hardness_59 (by omega) (by decide) (by omega) (by decide) ?_
    exact g_ireturn F hR dX3_hardness_60 (pI_i (by unfold sHard; (repeat' split) <;> omega) rfl rfl)
  · skip
    refine g_switchD F 61 dX3_hardness_4 rs_1 (by omega) rfl ?_
    refine g_aload_n F dX3_hardness_61 rfl 0 rfl ?_
    refine gg_Man_hand F (by omega) fk_X3_24 dX3_hardness_62 ?_
    exact g_ireturn F hR dX3_hardness_65 (pI_i (by unfold sHard; (repeat' split) <;> omega) rfl rfl)

set_option maxRecDepth 20000 in
theorem c_X3_appears (l : Launch) (D : gD) (ad : gA) (x : gX) (y : gY) (i h : Int) (hi : 0 ≤ i ∧ i < 7) (hm : MOK x i) (hh : 0 ≤ h ∧ h ≤ 100) : gC l D ad 1 yX3_appears cX3_appears 2 (some .boolean) [.ref (ad 3 (i)), .int (J (h))] x y (pB (sComes (x 1 i 0) (x 2 i 0) (x 3 i 0) h) (x) (y)) := by
  refine g_met RX3 rfl (by decide +kernel) [(0, .ref (ad 3 (i))), (1, .int (J (h)))] rfl (Nat.le_of_ble_eq_true rfl) (fun Θ F hR => ?_)
  refine g_aload_n F dX3_appears_0 rfl 0 rfl ?_
  refine gg_Man_kind F (by omega) fk_X3_15 dX3_appears_1 ?_
  refine g_iconst F dX3_appears_4 (4) (by decide) ?_
  refine g_icmp_ne 10 F dX3_appears_5 (by omega) (by decide) rfl (fun c_1 => ?_) (fun c_1 => ?_)
  · skip
    refine g_aload_n F dX3_appears_10 rfl 0 rfl ?_
    refine g_iconst F dX3_appears_11 (2) (by decide) ?_
    refine g_callV 1 F (As := [.int (J (2))]) (st := []) (c_X3_isOf l D ad x y (i) (2) (by omega) (by omega) (by omega)) (gR_3 (by omega)) rfl mk_X3_34 ki_X3_isOf kc_X3_isOf (by decide +kernel) rfl (by decide) dX3_appears_12 rfl (Nat.le_of_ble_eq_true rfl) (pB_k ?_)
    refine g_ifb_eq 24 F dX3_appears_15 rfl (fun c_2 => ?_) (fun c_2 => ?_)
    · skip
      refine g_aload_n F dX3_appears_24 rfl 0 rfl ?_
      refine g_iconst F dX3_appears_25 (3) (by decide) ?_
      refine g_callV 1 F (As := [.int (J (3))]) (st := []) (c_X3_isOf l D ad x y (i) (3) (by omega) (by omega) (by omega)) (gR_3 (by omega)) rfl mk_X3_34 ki_X3_isOf kc_X3_isOf (by decide +kernel) rfl (by decide) dX3_appears_26 rfl (Nat.le_of_ble_eq_true rfl) (pB_k ?_)
      refine g_ifb_eq 40 F dX3_appears_29 rfl (fun c_3 => ?_) (fun c_3 => ?_)
      · skip
        refine g_aload_n F dX3_appears_40 rfl 0 rfl ?_
        refine gg_Man_guilt F (by omega) fk_X3_18 dX3_appears_41 ?_
        refine g_if_eq 55 F dX3_appears_44 (by omega) rfl (fun c_4 => ?_) (fun c_4 => ?_)
        · skip
          refine g_iconst F dX3_appears_55 (1) (by decide) ?_
          refine g_goto F 60 dX3_appears_56 rfl ?_
          exact g_zreturn F hR dX3_appears_60 (by omega) (pB_i (by split <;> omega) rfl rfl)
        · skip
          refine g_aload_n F dX3_appears_47 rfl 0 rfl ?_
          refine gg_Man_belief F (by omega) fk_X3_21 dX3_appears_48 ?_
          refine g_iconst F dX3_appears_51 (3) (by decide) ?_
          refine g_icmp_ge 59 F dX3_appears_52 (by omega) (by decide) rfl (fun c_5 => ?_) (fun c_5 => ?_)
          · skip
            refine g_iconst F dX3_appears_59 (0) (by decide) ?_
            exact g_zreturn F hR dX3_appears_60 (by omega) (pB_i (by split <;> omega) rfl rfl)
          · skip
            refine g_iconst F dX3_appears_55 (1) (by decide) ?_
            refine g_goto F 60 dX3_appears_56 rfl ?_
            exact g_zreturn F hR dX3_appears_60 (by omega) (pB_i (by split <;> omega) rfl rfl)
      · skip
        refine g_iload_n F dX3_appears_32 rfl 1 rfl ?_
        refine g_bipush F dX3_appears_33 (10) (by decide) ?_
        refine g_icmp_le 40 F dX3_appears_35 (by omega) (by decide) rfl (fun c_6 => ?_) (fun c_6 => ?_)
        · skip
          refine g_aload_n F dX3_appears_40 rfl 0 rfl ?_
          refine gg_Man_guilt F (by omega) fk_X3_18 dX3_appears_41 ?_
          refine g_if_eq 55 F dX3_appears_44 (by omega) rfl (fun c_7 => ?_) (fun c_7 => ?_)
          · skip
            refine g_iconst F dX3_appears_55 (1) (by decide) ?_
            refine g_goto F 60 dX3_appears_56 rfl ?_
            exact g_zreturn F hR dX3_appears_60 (by omega) (pB_i (by split <;> omega) rfl rfl)
          · skip
            refine g_aload_n F dX3_appears_47 rfl 0 rfl ?_
            refine gg_Man_belief F (by omega) fk_X3_21 dX3_appears_48 ?_
            refine g_iconst F dX3_appears_51 (3) (by decide) ?_
            refine g_icmp_ge 59 F dX3_appears_52 (by omega) (by decide) rfl (fun c_8 => ?_) (fun c_8 => ?_)
            · skip
              refine g_iconst F dX3_appears_59 (0) (by decide) ?_
              exact g_zreturn F hR dX3_appears_60 (by omega) (pB_i (by split <;> omega) rfl rfl)
            · skip
              refine g_iconst F dX3_appears_55 (1) (by decide) ?_
              refine g_goto F 60 dX3_appears_56 rfl ?_
              exact g_zreturn F hR dX3_appears_60 (by omega) (pB_i (by split <;> omega) rfl rfl)
        · skip
          refine g_iconst F dX3_appears_38 (0) (by decide) ?_
          exact g_zreturn F hR dX3_appears_39 (by omega) (pB_i (by split <;> omega) rfl rfl)
    · skip
      refine g_iload_n F dX3_appears_18 rfl 1 rfl ?_
      refine g_bipush F dX3_appears_19 (20) (by decide) ?_
      refine g_icmp_gt 38 F dX3_appears_21 (by omega) (by decide) rfl (fun c_9 => ?_) (fun c_9 => ?_)
      · skip
        refine g_iconst F dX3_appears_38 (0) (by decide) ?_
        exact g_zreturn F hR dX3_appears_39 (by omega) (pB_i (by split <;> omega) rfl rfl)
      · skip
        refine g_aload_n F dX3_appears_24 rfl 0 rfl ?_
        refine g_iconst F dX3_appears_25 (3) (by decide) ?_
        refine g_callV 1 F (As := [.int (J (3))]) (st := []) (c_X3_isOf l D ad x y (i) (3) (by omega) (by omega) (by omega)) (gR_3 (by omega)) rfl mk_X3_34 ki_X3_isOf kc_X3_isOf (by decide +kernel) rfl (by decide) dX3_appears_26 rfl (Nat.le_of_ble_eq_true rfl) (pB_k ?_)
        refine g_ifb_eq 40 F dX3_appears_29 rfl (fun c_10 => ?_) (fun c_10 => ?_)
        · skip
          refine g_aload_n F dX3_appears_40 rfl 0 rfl ?_
          refine gg_Man_guilt F (by omega) fk_X3_18 dX3_appears_41 ?_
          refine g_if_eq 55 F dX3_appears_44 (by omega) rfl (fun c_11 => ?_) (fun c_11 => ?_)
          · skip
            refine g_iconst F dX3_appears_55 (1) (by decide) ?_
            refine g_goto F 60 dX3_appears_56 rfl ?_
            exact g_zreturn F hR dX3_appears_60 (by omega) (pB_i (by split <;> omega) rfl rfl)
          · skip
            refine g_aload_n F dX3_appears_47 rfl 0 rfl ?_
            refine gg_Man_belief F (by omega) fk_X3_21 dX3_appears_48 ?_
            refine g_iconst F dX3_appears_51 (3) (by decide) ?_
            refine g_icmp_ge 59 F dX3_appears_52 (by omega) (by decide) rfl (fun c_12 => ?_) (fun c_12 => ?_)
            · skip
              refine g_iconst F dX3_appears_59 (0) (by decide) ?_
              exact g_zreturn F hR dX3_appears_60 (by omega) (pB_i (by split <;> omega) rfl rfl)
            · skip
              refine g_iconst F dX3_appears_55 (1) (by decide) ?_
              refine g_goto F 60 dX3_appears_56 rfl ?_
              exact g_zreturn F hR dX3_appears_60 (by omega) (pB_i (by split <;> omega) rfl rfl)
        · skip
          refine g_iload_n F dX3_appears_32 rfl 1 rfl ?_
          refine g_bipush F dX3_appears_33 (10) (by decide) ?_
          refine g_icmp_le 40 F dX3_appears_35 (by omega) (by decide) rfl (fun c_13 => ?_) (fun c_13 => ?_)
          · skip
            refine g_aload_n F dX3_appears_40 rfl 0 rfl ?_
            refine gg_Man_guilt F (by omega) fk_X3_18 dX3_appears_41 ?_
            refine g_if_eq 55 F dX3_appears_44 (by omega) rfl (fun c_14 => ?_) (fun c_14 => ?_)
            · skip
              refine g_iconst F dX3_appears_55 (1) (by decide) ?_
              refine g_goto F 60 dX3_appears_56 rfl ?_
              exact g_zreturn F hR dX3_appears_60 (by omega) (pB_i (by split <;> omega) rfl rfl)
            · skip
              refine g_aload_n F dX3_appears_47 rfl 0 rfl ?_
              refine gg_Man_belief F (by omega) fk_X3_21 dX3_appears_48 ?_
              refine g_iconst F dX3_appears_51 (3) (by decide) ?_
              refine g_icmp_ge 59 F dX3_appears_52 (by omega) (by decide) rfl (fun c_15 => ?_) (fun c_15 => ?_)
              · skip
                refine g_iconst F dX3_appears_59 (0) (by decide) ?_
                exact g_zreturn F hR dX3_appears_60 (by omega) (pB_i (by split <;> omega) rfl rfl)
              · skip
                refine g_iconst F dX3_appears_55 (1) (by decide) ?_
                refine g_goto F 60 dX3_appears_56 rfl ?_
                exact g_zreturn F hR dX3_appears_60 (by omega) (pB_i (by split <;> omega) rfl rfl)
          · skip
            refine g_iconst F dX3_appears_38 (0) (by decide) ?_
            exact g_zreturn F hR dX3_appears_39 (by omega) (pB_i (by split <;> omega) rfl rfl)
  · skip
    refine g_iconst F dX3_appears_8 (1) (by decide) ?_
    exact g_zreturn F hR dX3_appears_9 (by omega) (pB_i (by split <;> omega) rfl rfl)

set_option maxRecDepth 20000 in
theorem c_X3_wrongedBy (l : Launch) (D : gD) (ad : gA) (x : gX) (y : gY) (i t : Int) (hi : 0 ≤ i ∧ i < 7) (hm : MOK x i) (ht : -9 ≤ t ∧ t ≤ 2) : gC l D ad 0 yX3_wrongedBy cX3_wrongedBy 2 (some .boolean) [.ref (ad 3 (i)), .int (J (t))] x y (pB (sWr (x 2 i 0) t) (x) (y)) := by
  refine g_met RX3 rfl (by decide +kernel) [(0, .ref (ad 3 (i))), (1, .int (J (t)))] rfl (Nat.le_of_ble_eq_true rfl) (fun Θ F hR => ?_)
  refine g_iload_n F dX3_wrongedBy_0 rfl 1 rfl ?_
  refine g_iconst F dX3_wrongedBy_1 (1) (by decide) ?_
  refine g_icmp_ne 9 F dX3_wrongedBy_2 (by omega) (by decide) rfl (fun c_1 => ?_) (fun c_1 => ?_)
  · skip
    refine g_iconst F dX3_wrongedBy_9 (0) (by decide) ?_
    refine g_aload_n F dX3_wrongedBy_10 rfl 0 rfl ?_
    refine gg_Man_guilt F (by omega) fk_X3_18 dX3_wrongedBy_11 ?_
    refine g_iconst F dX3_wrongedBy_14 (1) (by decide) ?_
    refine g_icmp_ne 22 F dX3_wrongedBy_15 (by omega) (by decide) rfl (fun c_2 => ?_) (fun c_2 => ?_)
    · skip
      refine g_iconst F dX3_wrongedBy_22 (0) (by decide) ?_
      refine g_icmp_ne 30 F dX3_wrongedBy_23 (by decide) (by decide) rfl (fun c_3 => ?_) (fun c_3 => ?_)
      · skip
        refine g_iconst F dX3_wrongedBy_30 (0) (by decide) ?_
        exact g_zreturn F hR dX3_wrongedBy_31 (by omega) (pB_i (by split <;> omega) rfl rfl)
      · skip
        refine g_iconst F dX3_wrongedBy_26 (1) (by decide) ?_
        refine g_goto F 31 dX3_wrongedBy_27 rfl ?_
        exact g_zreturn F hR dX3_wrongedBy_31 (by omega) (pB_i (by split <;> omega) rfl rfl)
    · skip
      refine g_iconst F dX3_wrongedBy_18 (1) (by decide) ?_
      refine g_goto F 23 dX3_wrongedBy_19 rfl ?_
      refine g_icmp_ne 30 F dX3_wrongedBy_23 (by decide) (by decide) rfl (fun c_4 => ?_) (fun c_4 => ?_)
      · skip
        refine g_iconst F dX3_wrongedBy_30 (0) (by decide) ?_
        exact g_zreturn F hR dX3_wrongedBy_31 (by omega) (pB_i (by split <;> omega) rfl rfl)
      · skip
        refine g_iconst F dX3_wrongedBy_26 (1) (by decide) ?_
        refine g_goto F 31 dX3_wrongedBy_27 rfl ?_
        exact g_zreturn F hR dX3_wrongedBy_31 (by omega) (pB_i (by split <;> omega) rfl rfl)
  · skip
    refine g_iconst F dX3_wrongedBy_5 (1) (by decide) ?_
    refine g_goto F 10 dX3_wrongedBy_6 rfl ?_
    refine g_aload_n F dX3_wrongedBy_10 rfl 0 rfl ?_
    refine gg_Man_guilt F (by omega) fk_X3_18 dX3_wrongedBy_11 ?_
    refine g_iconst F dX3_wrongedBy_14 (1) (by decide) ?_
    refine g_icmp_ne 22 F dX3_wrongedBy_15 (by omega) (by decide) rfl (fun c_5 => ?_) (fun c_5 => ?_)
    · skip
      refine g_iconst F dX3_wrongedBy_22 (0) (by decide) ?_
      refine g_icmp_ne 30 F dX3_wrongedBy_23 (by decide) (by decide) rfl (fun c_6 => ?_) (fun c_6 => ?_)
      · skip
        refine g_iconst F dX3_wrongedBy_30 (0) (by decide) ?_
        exact g_zreturn F hR dX3_wrongedBy_31 (by omega) (pB_i (by split <;> omega) rfl rfl)
      · skip
        refine g_iconst F dX3_wrongedBy_26 (1) (by decide) ?_
        refine g_goto F 31 dX3_wrongedBy_27 rfl ?_
        exact g_zreturn F hR dX3_wrongedBy_31 (by omega) (pB_i (by split <;> omega) rfl rfl)
    · skip
      refine g_iconst F dX3_wrongedBy_18 (1) (by decide) ?_
      refine g_goto F 23 dX3_wrongedBy_19 rfl ?_
      refine g_icmp_ne 30 F dX3_wrongedBy_23 (by decide) (by decide) rfl (fun c_7 => ?_) (fun c_7 => ?_)
      · skip
        refine g_iconst F dX3_wrongedBy_30 (0) (by decide) ?_
        exact g_zreturn F hR dX3_wrongedBy_31 (by omega) (pB_i (by split <;> omega) rfl rfl)
      · skip
        refine g_iconst F dX3_wrongedBy_26 (1) (by decide) ?_
        refine g_goto F 31 dX3_wrongedBy_27 rfl ?_
        exact g_zreturn F hR dX3_wrongedBy_31 (by omega) (pB_i (by split <;> omega) rfl rfl)

set_option maxRecDepth 20000 in
theorem c_X3_dueByLot (l : Launch) (D : gD) (ad : gA) (x : gX) (y : gY) (i : Int) (hi : 0 ≤ i ∧ i < 7) (hm : MOK x i) : gC l D ad 1 yX3_dueByLot cX3_dueByLot 1 (some .int) [.ref (ad 3 (i))] x y (pI (if x 6 i 0 = -9 then 2 else if x 5 i 0 < 3 then 1 else 3) (x) (y)) := by
  refine g_met RX3 rfl (by decide +kernel) [(0, .ref (ad 3 (i)))] rfl (Nat.le_of_ble_eq_true rfl) (fun Θ F hR => ?_)
  refine g_aload_n F dX3_dueByLot_0 rfl 0 rfl ?_
  refine g_callV 0 F (As := []) (st := []) (c_X3_isTried l D ad x y (i) (by omega) (by omega)) (gR_3 (by omega)) rfl mk_X3_38 ki_X3_isTried kc_X3_isTried (by decide +kernel) rfl (by decide) dX3_dueByLot_1 rfl (Nat.le_of_ble_eq_true rfl) (pB_k ?_)
  refine g_ifb_ne 9 F dX3_dueByLot_4 rfl (fun c_1 => ?_) (fun c_1 => ?_)
  · skip
    refine g_aload_n F dX3_dueByLot_9 rfl 0 rfl ?_
    refine gg_Man_salve F (by omega) fk_X3_27 dX3_dueByLot_10 ?_
    refine g_iconst F dX3_dueByLot_13 (3) (by decide) ?_
    refine g_icmp_ge 21 F dX3_dueByLot_14 (by omega) (by decide) rfl (fun c_2 => ?_) (fun c_2 => ?_)
    · skip
      refine g_iconst F dX3_dueByLot_21 (3) (by decide) ?_
      exact g_ireturn F hR dX3_dueByLot_22 (pI_i (by (repeat' split) <;> omega) rfl rfl)
    · skip
      refine g_iconst F dX3_dueByLot_17 (1) (by decide) ?_
      refine g_goto F 22 dX3_dueByLot_18 rfl ?_
      exact g_ireturn F hR dX3_dueByLot_22 (pI_i (by (repeat' split) <;> omega) rfl rfl)
  · skip
    refine g_iconst F dX3_dueByLot_7 (2) (by decide) ?_
    exact g_ireturn F hR dX3_dueByLot_8 (pI_i (by (repeat' split) <;> omega) rfl rfl)

set_option maxRecDepth 20000 in
theorem c_X3_become (l : Launch) (D : gD) (ad : gA) (x : gX) (y : gY) (i k g b h : Int) (hi : 0 ≤ i ∧ i < 7) : gC l D ad 0 yX3_become cX3_become 5 none [.ref (ad 3 (i)), .int (J (k)), .int (J (g)), .int (J (b)), .int (J (h))] x y (pV (xU (xU (xU (xU x 1 i 0 k) 2 i 0 g) 3 i 0 b) 4 i 0 h) (y)) := by
  refine g_met RX3 rfl (by decide +kernel) [(0, .ref (ad 3 (i))), (1, .int (J (k))), (2, .int (J (g))), (3, .int (J (b))), (4, .int (J (h)))] rfl (Nat.le_of_ble_eq_true rfl) (fun Θ F hR => ?_)
  refine g_aload_n F dX3_become_0 rfl 0 rfl ?_
  refine g_iload_n F dX3_become_1 rfl 1 rfl ?_
  refine gp_Man_kind F (by omega) fk_X3_15 dX3_become_2 ?_
  refine g_aload_n F dX3_become_5 rfl 0 rfl ?_
  refine g_iload_n F dX3_become_6 rfl 2 rfl ?_
  refine gp_Man_guilt F (by omega) fk_X3_18 dX3_become_7 ?_
  refine g_aload_n F dX3_become_10 rfl 0 rfl ?_
  refine g_iload_n F dX3_become_11 rfl 3 rfl ?_
  refine gp_Man_belief F (by omega) fk_X3_21 dX3_become_12 ?_
  refine g_aload_n F dX3_become_15 rfl 0 rfl ?_
  refine g_iload F dX3_become_16 4 rfl ?_
  refine gp_Man_hand F (by omega) fk_X3_24 dX3_become_18 ?_
  exact g_vreturn F hR dX3_become_21 (pV_i (by rfl) rfl)

set_option maxRecDepth 20000 in
theorem c_X3_forgetDeeds (l : Launch) (D : gD) (ad : gA) (x : gX) (y : gY) (i : Int) (hi : 0 ≤ i ∧ i < 7) : gC l D ad 0 yX3_forgetDeeds cX3_forgetDeeds 1 none [.ref (ad 3 (i))] x y (pV (xU (xU (xU x 5 i 0 0) 6 i 0 (-9)) 7 i 0 0) (y)) := by
  refine g_met RX3 rfl (by decide +kernel) [(0, .ref (ad 3 (i)))] rfl (Nat.le_of_ble_eq_true rfl) (fun Θ F hR => ?_)
  refine g_aload_n F dX3_forgetDeeds_0 rfl 0 rfl ?_
  refine g_iconst F dX3_forgetDeeds_1 (0) (by decide) ?_
  refine gp_Man_salve F (by omega) fk_X3_27 dX3_forgetDeeds_2 ?_
  refine g_aload_n F dX3_forgetDeeds_5 rfl 0 rfl ?_
  refine g_bipush F dX3_forgetDeeds_6 (-9) (by decide) ?_
  refine gp_Man_verdict F (by omega) fk_X3_9 dX3_forgetDeeds_8 ?_
  refine g_aload_n F dX3_forgetDeeds_11 rfl 0 rfl ?_
  refine g_iconst F dX3_forgetDeeds_12 (0) (by decide) ?_
  refine gp_Man_wronged F (by omega) (by omega) fk_X3_30 dX3_forgetDeeds_13 ?_
  exact g_vreturn F hR dX3_forgetDeeds_16 (pV_i (by rfl) rfl)

set_option maxRecDepth 20000 in
theorem c_X0_felt (l : Launch) (D : gD) (ad : gA) (x : gX) (y : gY) (i h : Int) (hi : 0 ≤ i ∧ i < 7) (hI : IOK x) (hm : MOK x i) (hh : 0 ≤ h ∧ h ≤ 100) : gC l D ad 0 yX0_felt cX0_felt 4 (some .int) [.ref (ad 0 (0)), .ref (ad 3 (i)), .int (J (h))] x y (pI (sFelt (x 12 0 0) (x 1 i 0) (x 3 i 0) h) (x) (y)) := by
  refine g_met RX0 rfl (by decide +kernel) [(0, .ref (ad 0 (0))), (1, .ref (ad 3 (i))), (2, .int (J (h)))] rfl (Nat.le_of_ble_eq_true rfl) (fun Θ F hR => ?_)
  refine g_iload_n F dX0_felt_0 rfl 2 rfl ?_
  refine g_istore_n F [(3, .int (J (h))), (0, .ref (ad 0 (0))), (1, .ref (ad 3 (i))), (2, .int (J (h)))] dX0_felt_1 rfl (by decide) rfl ?_
  refine g_aload_n F dX0_felt_2 rfl 2 rfl ?_
  refine ggN_Man_belief F (by omega) fk_X0_72 dX0_felt_3 ?_
  refine g_iconst F dX0_felt_6 (5) (by decide) ?_
  refine g_icmp_lt 29 F dX0_felt_7 (by omega) (by decide) rfl (fun c_1 => ?_) (fun c_1 => ?_)
  · skip
    refine g_aload_n F dX0_felt_29 rfl 2 rfl ?_
    refine ggN_Man_kind F (by omega) fk_X0_66 dX0_felt_30 ?_
    refine g_iconst F dX0_felt_33 (5) (by decide) ?_
    refine g_icmp_ne 43 F dX0_felt_34 (by omega) (by decide) rfl (fun c_2 => ?_) (fun c_2 => ?_)
    · skip
      refine g_iload_n F dX0_felt_43 rfl 0 rfl ?_
      exact g_ireturn F hR dX0_felt_44 (pI_i (by unfold sFelt sPlain; (repeat' split) <;> omega) rfl rfl)
    · skip
      refine g_iload_n F dX0_felt_37 rfl 0 rfl ?_
      refine g_iconst F dX0_felt_38 (2) (by decide) ?_
      refine g_idivp F dX0_felt_39 (by omega) (by decide) (by omega) (by decide) ?_
      refine g_goto F 44 dX0_felt_40 rfl ?_
      exact g_ireturn F hR dX0_felt_44 (pI_i (by unfold sFelt sPlain; (repeat' split) <;> omega) rfl rfl)
  · skip
    refine g_iload_n F dX0_felt_10 rfl 3 rfl ?_
    refine g_aload_n F dX0_felt_11 rfl 1 rfl ?_
    refine gg_Court_mercy F fk_X0_44 dX0_felt_12 ?_
    refine g_icmp_le 27 F dX0_felt_15 (by omega) (by omega) rfl (fun c_3 => ?_) (fun c_3 => ?_)
    · skip
      refine g_iconst F dX0_felt_27 (0) (by decide) ?_
      refine g_istore_n F [(3, .int (J (0))), (0, .ref (ad 0 (0))), (1, .ref (ad 3 (i))), (2, .int (J (h)))] dX0_felt_28 rfl (by decide) rfl ?_
      refine g_aload_n F dX0_felt_29 rfl 2 rfl ?_
      refine ggN_Man_kind F (by omega) fk_X0_66 dX0_felt_30 ?_
      refine g_iconst F dX0_felt_33 (5) (by decide) ?_
      refine g_icmp_ne 43 F dX0_felt_34 (by omega) (by decide) rfl (fun c_4 => ?_) (fun c_4 => ?_)
      · skip
        refine g_iload_n F dX0_felt_43 rfl 0 rfl ?_
        exact g_ireturn F hR dX0_felt_44 (pI_i (by unfold sFelt sPlain; (repeat' split) <;> omega) rfl rfl)
      · skip
        refine g_iload_n F dX0_felt_37 rfl 0 rfl ?_
        refine g_iconst F dX0_felt_38 (2) (by decide) ?_
        refine g_idivp F dX0_felt_39 (by decide) (by decide) (by omega) (by decide) ?_
        refine g_goto F 44 dX0_felt_40 rfl ?_
        exact g_ireturn F hR dX0_felt_44 (pI_i (by unfold sFelt sPlain; (repeat' split) <;> omega) rfl rfl)
    · skip
      refine g_iload_n F dX0_felt_18 rfl 3 rfl ?_
      refine g_aload_n F dX0_felt_19 rfl 1 rfl ?_
      refine gg_Court_mercy F fk_X0_44 dX0_felt_20 ?_
      refine g_isub F dX0_felt_23 ?_
      refine g_goto F 28 dX0_felt_24 rfl ?_
      refine g_istore_n F [(3, .int (J ((h) - (x 12 (0) (0))))), (0, .ref (ad 0 (0))), (1, .ref (ad 3 (i))), (2, .int (J (h)))] dX0_felt_28 rfl (by decide) rfl ?_
      refine g_aload_n F dX0_felt_29 rfl 2 rfl ?_
      refine ggN_Man_kind F (by omega) fk_X0_66 dX0_felt_30 ?_
      refine g_iconst F dX0_felt_33 (5) (by decide) ?_
      refine g_icmp_ne 43 F dX0_felt_34 (by omega) (by decide) rfl (fun c_5 => ?_) (fun c_5 => ?_)
      · skip
        refine g_iload_n F dX0_felt_43 rfl 0 rfl ?_
        exact g_ireturn F hR dX0_felt_44 (pI_i (by unfold sFelt sPlain; (repeat' split) <;> omega) rfl rfl)
      · skip
        refine g_iload_n F dX0_felt_37 rfl 0 rfl ?_
        refine g_iconst F dX0_felt_38 (2) (by decide) ?_
        refine g_idivp F dX0_felt_39 (by omega) (by decide) (by omega) (by decide) ?_
        refine g_goto F 44 dX0_felt_40 rfl ?_
        exact g_ireturn F hR dX0_felt_44 (pI_i (by unfold sFelt sPlain; (repeat' split) <;> omega) rfl rfl)

set_option maxRecDepth 20000 in
theorem c_X0_burn (l : Launch) (D : gD) (ad : gA) (x : gX) (y : gY) (i h : Int) (hi : 0 ≤ i ∧ i < 7) (hI : IOK x) (hm : MOK x i) (hh : 0 ≤ h ∧ h ≤ 100) : gC l D ad 1 yX0_burn cX0_burn 3 (some .int) [.ref (ad 0 (0)), .ref (ad 3 (i)), .int (J (h))] x y (pI (bU x i h) (x) (y)) := by
  refine g_met RX0 rfl (by decide +kernel) [(0, .ref (ad 0 (0))), (1, .ref (ad 3 (i))), (2, .int (J (h)))] rfl (Nat.le_of_ble_eq_true rfl) (fun Θ F hR => ?_)
  have r1 := sFelt_r (m := x 12 0 0) (k := x 1 i 0) (b := x 3 i 0) hh hI.2.1.1
  have r2 := pm_r hI.1 r1
  have r3 := sHard_r (k := x 1 i 0) hm.2.2.2.1
  refine g_iconst F dX0_burn_0 (0) (by decide) ?_
  refine g_aload_n F dX0_burn_1 rfl 0 rfl ?_
  refine gg_Court_pounds F fk_X0_41 dX0_burn_2 ?_
  refine g_aload_n F dX0_burn_5 rfl 0 rfl ?_
  refine g_aload_n F dX0_burn_6 rfl 1 rfl ?_
  refine g_iload_n F dX0_burn_7 rfl 2 rfl ?_
  refine g_callV 2 F (As := [.ref (ad 3 (i)), .int (J (h))]) (st := [.int (J (x 11 (0) (0))), .int (J (0))]) (c_X0_felt l D ad x y (i) (h) (by omega) (by omega) (by omega) (by omega)) (gR_0) rfl mk_X0_141 ki_X0_felt kc_X0_felt (by decide +kernel) rfl (by decide) dX0_burn_8 rfl (Nat.le_of_ble_eq_true rfl) (pI_k ?_)
  refine g_imul F dX0_burn_11 ?_
  refine g_aload_n F dX0_burn_12 rfl 1 rfl ?_
  refine g_callV 0 F (As := []) (st := [.int (J ((x 11 (0) (0)) * (sFelt (x 12 0 0) (x 1 (i) 0) (x 3 (i) 0) (h)))), .int (J (0))]) (c_X3_hardness l D ad x y (i) (by omega) (by omega)) (gR_3 (by omega)) rfl mk_X0_75 ki_X3_hardness kc_X3_hardness (by decide +kernel) rfl (by decide) dX0_burn_13 rfl (Nat.le_of_ble_eq_true rfl) (pI_k ?_)
  refine g_isub F dX0_burn_16 ?_
  refine g_max F mk_X0_138 (by decide) (by decide) (by omega) dX0_burn_17 (Nat.le_of_ble_eq_true rfl) ?_
  exact g_ireturn F hR dX0_burn_20 (pI_i (by rfl) rfl rfl)

set_option maxRecDepth 20000 in
theorem c_X0_lacking (l : Launch) (D : gD) (ad : gA) (x : gX) (y : gY) (i h : Int) (hi : 0 ≤ i ∧ i < 7) (hI : IOK x) (hm : MOK x i) (hh : 0 ≤ h ∧ h ≤ 100) : gC l D ad 2 yX0_lacking cX0_lacking 3 (some .int) [.ref (ad 0 (0)), .ref (ad 3 (i)), .int (J (h))] x y (pI (lU x i h) (x) (y)) := by
  refine g_met RX0 rfl (by decide +kernel) [(0, .ref (ad 0 (0))), (1, .ref (ad 3 (i))), (2, .int (J (h)))] rfl (Nat.le_of_ble_eq_true rfl) (fun Θ F hR => ?_)
  refine g_aload_n F dX0_lacking_0 rfl 0 rfl ?_
  refine g_aload_n F dX0_lacking_1 rfl 1 rfl ?_
  refine g_iload_n F dX0_lacking_2 rfl 2 rfl ?_
  refine g_callV 2 F (As := [.ref (ad 3 (i)), .int (J (h))]) (st := []) (c_X0_burn l D ad x y (i) (h) (by omega) (by omega) (by omega) (by omega)) (gR_0) rfl mk_X0_79 ki_X0_burn kc_X0_burn (by decide +kernel) rfl (by decide) dX0_lacking_3 rfl (Nat.le_of_ble_eq_true rfl) (pI_k ?_)
  refine g_aload_n F dX0_lacking_6 rfl 0 rfl ?_
  refine gg_Court_heals F fk_X0_47 dX0_lacking_7 ?_
  refine g_isub F dX0_lacking_10 ?_
  refine g_iconst F dX0_lacking_11 (2) (by decide) ?_
  refine g_aload_n F dX0_lacking_12 rfl 1 rfl ?_
  refine ggN_Man_salve F (by omega) fk_X0_90 dX0_lacking_13 ?_
  refine g_imul F dX0_lacking_16 ?_
  refine g_isub F dX0_lacking_17 ?_
  exact g_ireturn F hR dX0_lacking_18 (pI_i (by rfl) rfl rfl)

set_option maxRecDepth 20000 in
theorem c_X0_verdict (l : Launch) (D : gD) (ad : gA) (x : gX) (y : gY) (i h : Int) (hi : 0 ≤ i ∧ i < 7) (hI : IOK x) (hm : MOK x i) (hh : 0 ≤ h ∧ h ≤ 100) : gC l D ad 3 yX0_verdict cX0_verdict 3 (some .int) [.ref (ad 0 (0)), .ref (ad 3 (i)), .int (J (h))] x y (pI (vU x i h) (x) (y)) := by
  refine g_met RX0 rfl (by decide +kernel) [(0, .ref (ad 0 (0))), (1, .ref (ad 3 (i))), (2, .int (J (h)))] rfl (Nat.le_of_ble_eq_true rfl) (fun Θ F hR => ?_)
  have r1 := lU_r hI hm hh
  refine g_aload_n F dX0_verdict_0 rfl 1 rfl ?_
  refine g_iload_n F dX0_verdict_1 rfl 2 rfl ?_
  refine g_callV 1 F (As := [.int (J (h))]) (st := []) (c_X3_appears l D ad x y (i) (h) (by omega) (by omega) (by omega)) (gR_3 (by omega)) rfl mk_X0_83 ki_X3_appears kc_X3_appears (by decide +kernel) rfl (by decide) dX0_verdict_2 rfl (Nat.le_of_ble_eq_true rfl) (pB_k ?_)
  refine g_ifb_ne 10 F dX0_verdict_5 rfl (fun c_1 => ?_) (fun c_1 => ?_)
  · skip
    refine g_aload_n F dX0_verdict_10 rfl 0 rfl ?_
    refine g_aload_n F dX0_verdict_11 rfl 1 rfl ?_
    refine g_iload_n F dX0_verdict_12 rfl 2 rfl ?_
    refine g_callV 2 F (As := [.ref (ad 3 (i)), .int (J (h))]) (st := []) (c_X0_lacking l D ad x y (i) (h) (by omega) (by omega) (by omega) (by omega)) (gR_0) rfl mk_X0_87 ki_X0_lacking kc_X0_lacking (by decide +kernel) rfl (by decide) dX0_verdict_13 rfl (Nat.le_of_ble_eq_true rfl) (pI_k ?_)
    refine g_if_le 23 F dX0_verdict_16 (by omega) rfl (fun c_2 => ?_) (fun c_2 => ?_)
    · skip
      refine g_iconst F dX0_verdict_23 (1) (by decide) ?_
      exact g_ireturn F hR dX0_verdict_24 (pI_i (by unfold vU; (repeat' split) <;> first | rfl | omega | contradiction) rfl rfl)
    · skip
      refine g_iconst F dX0_verdict_19 (0) (by decide) ?_
      refine g_goto F 24 dX0_verdict_20 rfl ?_
      exact g_ireturn F hR dX0_verdict_24 (pI_i (by unfold vU; (repeat' split) <;> first | rfl | omega | contradiction) rfl rfl)
  · skip
    refine g_iconst F dX0_verdict_8 (2) (by decide) ?_
    exact g_ireturn F hR dX0_verdict_9 (pI_i (by unfold vU; (repeat' split) <;> first | rfl | omega | contradiction) rfl rfl)
