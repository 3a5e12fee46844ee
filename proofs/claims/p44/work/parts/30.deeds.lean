theorem bitsZ_y {P : Int → Prop} [DecidablePred P] {j : Int} (h0 : 0 ≤ j) (h : P j) : bitsZ P (j + 1) = bitsZ P j + p2 j := by
  unfold bitsZ; rw [sumZ_s _ h0]; show _ + (if P j then p2 j else 0) = _; rw [if_pos h]
theorem bitsZ_n {P : Int → Prop} [DecidablePred P] {j : Int} (h0 : 0 ≤ j) (h : ¬ P j) : bitsZ P (j + 1) = bitsZ P j := by
  unfold bitsZ; rw [sumZ_s _ h0]; show _ + (if P j then p2 j else 0) = _; rw [if_neg h, Int.add_zero]
theorem lkM_g (x : gX) (i v : Int) : sHard (lkM x i 1 v 1 6 0) (lkM x i 1 v 4 6 0) = sHard v (x 4 i 0) := rfl
theorem dO_NO0 {x : gX} {n : Int} (h : NOK x) : NO0 (xU x 16 0 0 n) := NOK_0 h
theorem perM_at (x : gX) (w h : Int) {k : Int} (h5 : k ≠ 5) (h6 : k ≠ 6) (h7 : k ≠ 7) (h15 : k ≠ 15) (h1 : k ≠ 16) (h2 : k ≠ 21) (h3 : k ≠ 22) : perM x w h k = x k := by
  unfold perM
  rw [actM_k h5 h6 h7 h15]
  exact addM_k x w h h1 h2 h3
theorem bit_add {a j : Int} : a + 0 = a := Int.add_zero a
def hRf (x : gX) (m h : Int) : Int := if h < 0 ∨ m < h then -1 else if x 10 0 0 = 0 then -4 else 0
theorem hRf_0 {x : gX} {m h : Int} (q : hRf x m h = 0) : (0 ≤ h ∧ h ≤ m) ∧ x 10 0 0 ≠ 0 := by
  unfold hRf at q
  split at q
  · omega
  · split at q
    · omega
    · omega
theorem hRf_r (x : gX) (m h : Int) : -4 ≤ hRf x m h ∧ hRf x m h ≤ 0 := by unfold hRf; (repeat' split) <;> omega
def sComesQ (x : gX) : Int × gX := if x 10 0 0 = 0 then (-4, x) else (bitsZ (fun i => x 6 i 0 = -9 ∧ vU x i (x 15 0 0) ≠ 2) (x 10 0 0), xU x 19 0 0 (bitsZ (fun i => x 6 i 0 = -9 ∧ vU x i (x 15 0 0) = 1) (x 10 0 0)))
def sWrong (x : gX) (h : Int) : Int × gX := if hRf x 30 h ≠ 0 then (hRf x 30 h, x) else (awU x h, xU x 19 0 0 (gwU x h))
def bsN (f : Int → Int) : Nat → Int × Int
  | 0 => (0, f 0)
  | k + 1 => if f ((k : Int) + 1) < (bsN f k).2 then ((k : Int) + 1, f ((k : Int) + 1)) else bsN f k
theorem bsN_s (f : Int → Int) {j : Int} (h : 1 ≤ j) : bsN f (j + 1 - 1).toNat = if f j < (bsN f (j - 1).toNat).2 then (j, f j) else bsN f (j - 1).toNat := by
  rw [show (j + 1 - 1).toNat = (j - 1).toNat + 1 by omega]
  show (if f (((j - 1).toNat : Int) + 1) < (bsN f (j - 1).toNat).2 then (((j - 1).toNat : Int) + 1, f (((j - 1).toNat : Int) + 1)) else bsN f (j - 1).toNat) = _
  rw [show ((j - 1).toNat : Int) + 1 = j by omega]
def sBest (x : gX) : Int × gX := if x 10 0 0 = 0 then (-4, x) else ((bsN (fun h => awU x h) 30).1, xU x 19 0 0 (bsN (fun h => awU x h) 30).2)
def sHeats (x : gX) (i v : Int) : Int × gX := if ¬ mnN x i ∨ v < 0 ∨ 3 ≤ v then (-1, x) else (htU x i v, x)
theorem awU_r {x : gX} (hN : NOK x) (h : Int) : 0 ≤ awU x h ∧ awU x h ≤ 6 := by
  have a : 0 ≤ awU x h ∧ awU x h ≤ x 10 0 0 := cntZ_r hN.2.1.1
  have := hN.2.1
  omega
set_option maxRecDepth 20000 in
theorem c_X7_man (l : Launch) (D : gD) (ad : gA) (x : gX) (y : gY) (i w : Int) (hi : i32 i) (hw : i32 w) (hV : INV x) : gC l D ad 4 yX7_man cX7_man 3 (some .int) [.ref (ad 7 (0)), .int (J (i)), .int (J (w))] x y (pI ((sMan x i w).1) ((sMan x i w).2) (y)) := by
  refine g_met RX7 rfl (by decide +kernel) [(0, .ref (ad 7 (0))), (1, .int (J (i))), (2, .int (J (w)))] rfl (Nat.le_of_ble_eq_true rfl) (fun Θ F hR => ?_)
  obtain ⟨hN, hRW, hDD, hCU, hMS⟩ := hV
  refine g_aload_n F dX7_man_0 rfl 0 rfl ?_
  refine g_iload_n F dX7_man_1 rfl 1 rfl ?_
  refine g_callV 1 F (As := [.int (J (i))]) (st := []) (c_X7_isMan l D ad x y (i) (by omega) (by omega)) (gR_7) rfl mk_X7_122 ki_X7_isMan kc_X7_isMan (by decide +kernel) rfl (by decide) dX7_man_2 rfl (Nat.le_of_ble_eq_true rfl) (pB_k ?_)
  refine g_ifb_eq 18 F dX7_man_5 rfl (fun c_1 => ?_) (fun c_1 => ?_)
  · skip
    refine g_iconst F dX7_man_18 (-1) (by decide) ?_
    exact g_ireturn F hR dX7_man_19 (pI_i (by unfold sMan; (repeat' split) <;> first | rfl | (exfalso; omega)) (by unfold sMan; (repeat' split) <;> first | rfl | (exfalso; omega)) rfl)
  · skip
    refine g_iload_n F dX7_man_8 rfl 2 rfl ?_
    refine g_if_lt 18 F dX7_man_9 (by omega) rfl (fun c_2 => ?_) (fun c_2 => ?_)
    · skip
      refine g_iconst F dX7_man_18 (-1) (by decide) ?_
      exact g_ireturn F hR dX7_man_19 (pI_i (by unfold sMan; (repeat' split) <;> first | rfl | (exfalso; omega)) (by unfold sMan; (repeat' split) <;> first | rfl | (exfalso; omega)) rfl)
    · skip
      refine g_iload_n F dX7_man_12 rfl 2 rfl ?_
      refine g_bipush F dX7_man_13 (9) (by decide) ?_
      refine g_icmp_lt 20 F dX7_man_15 (by omega) (by decide) rfl (fun c_3 => ?_) (fun c_3 => ?_)
      · skip
        have hm := hN.2.2.2 i (by omega) (by omega)
        refine g_aload_n F dX7_man_20 rfl 0 rfl ?_
        refine g_aload_n F dX7_man_21 rfl 0 rfl ?_
        refine gg_Day_court F fk_X7_28 dX7_man_22 ?_
        refine g_aload_n F dX7_man_25 rfl 0 rfl ?_
        refine gg_Day_court F fk_X7_28 dX7_man_26 ?_
        refine ggN_Court_men F fk_X7_126 dX7_man_29 ?_
        refine g_iload_n F dX7_man_32 rfl 1 rfl ?_
        refine ga_32 F (by omega) dX7_man_33 ?_
        refine g_iload_n F dX7_man_34 rfl 2 rfl ?_
        refine g_callV 2 F (As := [.ref (ad 3 (i)), .int (J (w))]) (st := [.ref (ad 7 (0))]) (c_X0_detail l D ad x y (i) (w) (by omega) (by omega) (hm) (by omega)) (gR_0) rfl mk_X7_130 ki_X0_detail kc_X0_detail (by decide +kernel) rfl (by decide) dX7_man_35 rfl (Nat.le_of_ble_eq_true rfl) (pI_k ?_)
        refine gp_Day_told F fk_X7_75 dX7_man_38 ?_
        refine g_iconst F dX7_man_41 (1) (by decide) ?_
        exact g_ireturn F hR dX7_man_42 (pI_i (by unfold sMan; (repeat' split) <;> first | rfl | (exfalso; omega)) (by unfold sMan; (repeat' split) <;> first | rfl | (exfalso; omega)) rfl)
      · skip
        refine g_iconst F dX7_man_18 (-1) (by decide) ?_
        exact g_ireturn F hR dX7_man_19 (pI_i (by unfold sMan; (repeat' split) <;> first | rfl | (exfalso; omega)) (by unfold sMan; (repeat' split) <;> first | rfl | (exfalso; omega)) rfl)


set_option maxRecDepth 20000 in
theorem c_X7_heat (l : Launch) (D : gD) (ad : gA) (x : gX) (y : gY) (v : Int) (hv : i32 v) (hV : INV x) : gC l D ad 6 yX7_heat cX7_heat 2 (some .int) [.ref (ad 7 (0)), .int (J (v))] x y (pI ((sHeat x v).1) ((sHeat x v).2) (y)) := by
  refine g_met RX7 rfl (by decide +kernel) [(0, .ref (ad 7 (0))), (1, .int (J (v)))] rfl (Nat.le_of_ble_eq_true rfl) (fun Θ F hR => ?_)
  obtain ⟨hN, hRW, hDD, hCU, hMS⟩ := hV
  refine g_iload_n F dX7_heat_0 rfl 1 rfl ?_
  refine g_if_eq 15 F dX7_heat_1 (by omega) rfl (fun c_1 => ?_) (fun c_1 => ?_)
  · skip
    refine g_iconst F dX7_heat_15 (-1) (by decide) ?_
    exact g_ireturn F hR dX7_heat_16 (pI_i (by unfold sHeat; (repeat' split) <;> first | rfl | (exfalso; omega)) (by unfold sHeat; (repeat' split) <;> first | rfl | (exfalso; omega)) rfl)
  · skip
    refine g_iload_n F dX7_heat_4 rfl 1 rfl ?_
    refine g_bipush F dX7_heat_5 (-5) (by decide) ?_
    refine g_icmp_lt 15 F dX7_heat_7 (by omega) (by decide) rfl (fun c_2 => ?_) (fun c_2 => ?_)
    · skip
      refine g_iconst F dX7_heat_15 (-1) (by decide) ?_
      exact g_ireturn F hR dX7_heat_16 (pI_i (by unfold sHeat; (repeat' split) <;> first | rfl | (exfalso; omega)) (by unfold sHeat; (repeat' split) <;> first | rfl | (exfalso; omega)) rfl)
    · skip
      refine g_iload_n F dX7_heat_10 rfl 1 rfl ?_
      refine g_iconst F dX7_heat_11 (5) (by decide) ?_
      refine g_icmp_le 17 F dX7_heat_12 (by omega) (by decide) rfl (fun c_3 => ?_) (fun c_3 => ?_)
      · skip
        refine g_aload_n F dX7_heat_17 rfl 0 rfl ?_
        refine gg_Day_court F fk_X7_28 dX7_heat_18 ?_
        refine ggN_Court_size F fk_X7_121 dX7_heat_21 ?_
        refine g_if_ne 30 F dX7_heat_24 (by omega) rfl (fun c_4 => ?_) (fun c_4 => ?_)
        · skip
          refine g_aload_n F dX7_heat_30 rfl 0 rfl ?_
          refine gg_Day_court F fk_X7_28 dX7_heat_31 ?_
          refine ggN_Court_deeds F fk_X7_166 dX7_heat_34 ?_
          refine g_iconst F dX7_heat_37 (1) (by decide) ?_
          refine g_callV 1 F (As := [.int (J (1))]) (st := []) (c_X1_hasRoomFor l D ad x y (0) (1) (by omega) (by have := hDD.1.1; omega) (by omega)) (gR_1 (by decide)) rfl mk_X7_170 ki_X1_hasRoomFor kc_X1_hasRoomFor (by decide +kernel) rfl (by decide) dX7_heat_38 rfl (Nat.le_of_ble_eq_true rfl) (pB_k ?_)
          refine g_ifb_ne 47 F dX7_heat_41 rfl (fun c_5 => ?_) (fun c_5 => ?_)
          · skip
            refine g_aload_n F dX7_heat_47 rfl 0 rfl ?_
            refine gg_Day_court F fk_X7_28 dX7_heat_48 ?_
            refine g_iconst F dX7_heat_51 (0) (by decide) ?_
            refine g_iload_n F dX7_heat_52 rfl 1 rfl ?_
            refine g_callV 2 F (As := [.int (J (0)), .int (J (v))]) (st := []) (c_X0_perform l D ad x y (0) (v) (by omega) (by have := hDD.1.1; omega) (by unfold wOK; omega) (fun q => absurd q (by decide))) (gR_0) rfl mk_X7_173 ki_X0_perform kc_X0_perform (by decide +kernel) rfl (by decide) dX7_heat_53 rfl (Nat.le_of_ble_eq_true rfl) (pV_k ?_)
            refine g_aload_n F dX7_heat_56 rfl 0 rfl ?_
            refine gg_Day_court F fk_X7_28 dX7_heat_57 ?_
            refine ggN_Court_heat F fk_X7_151 dX7_heat_60 ?_
            exact g_ireturn F hR dX7_heat_63 (pI_i (by unfold sHeat; (repeat' split) <;> first | rfl | (exfalso; omega)) (by unfold sHeat; (repeat' split) <;> first | rfl | (exfalso; omega)) rfl)
          · skip
            refine g_bipush F dX7_heat_44 (-2) (by decide) ?_
            exact g_ireturn F hR dX7_heat_46 (pI_i (by unfold sHeat; (repeat' split) <;> first | rfl | (exfalso; omega)) (by unfold sHeat; (repeat' split) <;> first | rfl | (exfalso; omega)) rfl)
        · skip
          refine g_bipush F dX7_heat_27 (-4) (by decide) ?_
          exact g_ireturn F hR dX7_heat_29 (pI_i (by unfold sHeat; (repeat' split) <;> first | rfl | (exfalso; omega)) (by unfold sHeat; (repeat' split) <;> first | rfl | (exfalso; omega)) rfl)
      · skip
        refine g_iconst F dX7_heat_15 (-1) (by decide) ?_
        exact g_ireturn F hR dX7_heat_16 (pI_i (by unfold sHeat; (repeat' split) <;> first | rfl | (exfalso; omega)) (by unfold sHeat; (repeat' split) <;> first | rfl | (exfalso; omega)) rfl)

set_option maxRecDepth 20000 in
theorem c_X7_salve (l : Launch) (D : gD) (ad : gA) (x : gX) (y : gY) (i : Int) (hi : i32 i) (hV : INV x) : gC l D ad 6 yX7_salve cX7_salve 3 (some .int) [.ref (ad 7 (0)), .int (J (i))] x y (pI ((sSalve x i).1) ((sSalve x i).2) (y)) := by
  refine g_met RX7 rfl (by decide +kernel) [(0, .ref (ad 7 (0))), (1, .int (J (i)))] rfl (Nat.le_of_ble_eq_true rfl) (fun Θ F hR => ?_)
  obtain ⟨hN, hRW, hDD, hCU, hMS⟩ := hV
  refine g_aload_n F dX7_salve_0 rfl 0 rfl ?_
  refine g_iload_n F dX7_salve_1 rfl 1 rfl ?_
  refine g_callV 1 F (As := [.int (J (i))]) (st := []) (c_X7_isMan l D ad x y (i) (by omega) (by omega)) (gR_7) rfl mk_X7_122 ki_X7_isMan kc_X7_isMan (by decide +kernel) rfl (by decide) dX7_salve_2 rfl (Nat.le_of_ble_eq_true rfl) (pB_k ?_)
  refine g_ifb_ne 10 F dX7_salve_5 rfl (fun c_1 => ?_) (fun c_1 => ?_)
  · skip
    have hm := hN.2.2.2 i (by omega) (by omega)
    refine g_aload_n F dX7_salve_10 rfl 0 rfl ?_
    refine gg_Day_court F fk_X7_28 dX7_salve_11 ?_
    refine ggN_Court_men F fk_X7_126 dX7_salve_14 ?_
    refine g_iload_n F dX7_salve_17 rfl 1 rfl ?_
    refine ga_32 F (by omega) dX7_salve_18 ?_
    refine g_astore_n F [(2, .ref (ad 3 (i))), (0, .ref (ad 7 (0))), (1, .int (J (i)))] dX7_salve_19 rfl (by decide) rfl ?_
    refine g_aload_n F dX7_salve_20 rfl 0 rfl ?_
    refine ggN_Man_salve F (by omega) fk_X7_177 dX7_salve_21 ?_
    refine g_iconst F dX7_salve_24 (3) (by decide) ?_
    refine g_icmp_ge 35 F dX7_salve_25 (by omega) (by decide) rfl (fun c_2 => ?_) (fun c_2 => ?_)
    · skip
      refine g_bipush F dX7_salve_35 (-4) (by decide) ?_
      exact g_ireturn F hR dX7_salve_37 (pI_i (by unfold sSalve; (repeat' split) <;> first | rfl | (exfalso; omega)) (by unfold sSalve; (repeat' split) <;> first | rfl | (exfalso; omega)) rfl)
    · skip
      refine g_aload_n F dX7_salve_28 rfl 0 rfl ?_
      refine g_callV 0 F (As := []) (st := []) (c_X3_isTried l D ad x y (i) (by omega) (hm)) (gR_3 (by omega)) rfl mk_X7_180 ki_X3_isTried kc_X3_isTried (by decide +kernel) rfl (by decide) dX7_salve_29 rfl (Nat.le_of_ble_eq_true rfl) (pB_k ?_)
      refine g_ifb_eq 38 F dX7_salve_32 rfl (fun c_3 => ?_) (fun c_3 => ?_)
      · skip
        refine g_aload_n F dX7_salve_38 rfl 1 rfl ?_
        refine gg_Day_court F fk_X7_28 dX7_salve_39 ?_
        refine ggN_Court_deeds F fk_X7_166 dX7_salve_42 ?_
        refine g_iconst F dX7_salve_45 (1) (by decide) ?_
        refine g_callV 1 F (As := [.int (J (1))]) (st := []) (c_X1_hasRoomFor l D ad x y (0) (1) (by omega) (by have := hDD.1.1; omega) (by omega)) (gR_1 (by decide)) rfl mk_X7_170 ki_X1_hasRoomFor kc_X1_hasRoomFor (by decide +kernel) rfl (by decide) dX7_salve_46 rfl (Nat.le_of_ble_eq_true rfl) (pB_k ?_)
        refine g_ifb_ne 55 F dX7_salve_49 rfl (fun c_4 => ?_) (fun c_4 => ?_)
        · skip
          refine g_aload_n F dX7_salve_55 rfl 1 rfl ?_
          refine gg_Day_court F fk_X7_28 dX7_salve_56 ?_
          refine g_iconst F dX7_salve_59 (1) (by decide) ?_
          refine g_iload_n F dX7_salve_60 rfl 2 rfl ?_
          refine g_callV 2 F (As := [.int (J (1)), .int (J (i))]) (st := []) (c_X0_perform l D ad x y (1) (i) (by omega) (by have := hDD.1.1; omega) (by unfold wOK; omega) (fun q => by omega)) (gR_0) rfl mk_X7_173 ki_X0_perform kc_X0_perform (by decide +kernel) rfl (by decide) dX7_salve_61 rfl (Nat.le_of_ble_eq_true rfl) (pV_k ?_)
          refine g_aload_n F dX7_salve_64 rfl 0 rfl ?_
          refine ggN_Man_salve F (by omega) fk_X7_177 dX7_salve_65 ?_
          exact g_ireturn F hR dX7_salve_68 (pI_i (by unfold sSalve; (repeat' split) <;> first | rfl | (exfalso; omega)) (by unfold sSalve; (repeat' split) <;> first | rfl | (exfalso; omega)) rfl)
        · skip
          refine g_bipush F dX7_salve_52 (-2) (by decide) ?_
          exact g_ireturn F hR dX7_salve_54 (pI_i (by unfold sSalve; (repeat' split) <;> first | rfl | (exfalso; omega)) (by unfold sSalve; (repeat' split) <;> first | rfl | (exfalso; omega)) rfl)
      · skip
        refine g_bipush F dX7_salve_35 (-4) (by decide) ?_
        exact g_ireturn F hR dX7_salve_37 (pI_i (by unfold sSalve; (repeat' split) <;> first | rfl | (exfalso; omega)) (by unfold sSalve; (repeat' split) <;> first | rfl | (exfalso; omega)) rfl)
  · skip
    refine g_iconst F dX7_salve_8 (-1) (by decide) ?_
    exact g_ireturn F hR dX7_salve_9 (pI_i (by unfold sSalve; (repeat' split) <;> first | rfl | (exfalso; omega)) (by unfold sSalve; (repeat' split) <;> first | rfl | (exfalso; omega)) rfl)

set_option maxRecDepth 20000 in
theorem c_X7_trial (l : Launch) (D : gD) (ad : gA) (x : gX) (y : gY) (i : Int) (hi : i32 i) (hV : INV x) : gC l D ad 6 yX7_trial cX7_trial 3 (some .int) [.ref (ad 7 (0)), .int (J (i))] x y (pI ((sTrial x i).1) ((sTrial x i).2) (y)) := by
  refine g_met RX7 rfl (by decide +kernel) [(0, .ref (ad 7 (0))), (1, .int (J (i)))] rfl (Nat.le_of_ble_eq_true rfl) (fun Θ F hR => ?_)
  obtain ⟨hN, hRW, hDD, hCU, hMS⟩ := hV
  refine g_aload_n F dX7_trial_0 rfl 0 rfl ?_
  refine g_iload_n F dX7_trial_1 rfl 1 rfl ?_
  refine g_callV 1 F (As := [.int (J (i))]) (st := []) (c_X7_isMan l D ad x y (i) (by omega) (by omega)) (gR_7) rfl mk_X7_122 ki_X7_isMan kc_X7_isMan (by decide +kernel) rfl (by decide) dX7_trial_2 rfl (Nat.le_of_ble_eq_true rfl) (pB_k ?_)
  refine g_ifb_ne 10 F dX7_trial_5 rfl (fun c_1 => ?_) (fun c_1 => ?_)
  · skip
    have hm := hN.2.2.2 i (by omega) (by omega)
    refine g_aload_n F dX7_trial_10 rfl 0 rfl ?_
    refine gg_Day_court F fk_X7_28 dX7_trial_11 ?_
    refine ggN_Court_men F fk_X7_126 dX7_trial_14 ?_
    refine g_iload_n F dX7_trial_17 rfl 1 rfl ?_
    refine ga_32 F (by omega) dX7_trial_18 ?_
    refine g_astore_n F [(2, .ref (ad 3 (i))), (0, .ref (ad 7 (0))), (1, .int (J (i)))] dX7_trial_19 rfl (by decide) rfl ?_
    refine g_aload_n F dX7_trial_20 rfl 0 rfl ?_
    refine g_callV 0 F (As := []) (st := []) (c_X3_isTried l D ad x y (i) (by omega) (hm)) (gR_3 (by omega)) rfl mk_X7_180 ki_X3_isTried kc_X3_isTried (by decide +kernel) rfl (by decide) dX7_trial_21 rfl (Nat.le_of_ble_eq_true rfl) (pB_k ?_)
    refine g_ifb_eq 30 F dX7_trial_24 rfl (fun c_2 => ?_) (fun c_2 => ?_)
    · skip
      refine g_aload_n F dX7_trial_30 rfl 1 rfl ?_
      refine gg_Day_court F fk_X7_28 dX7_trial_31 ?_
      refine ggN_Court_deeds F fk_X7_166 dX7_trial_34 ?_
      refine g_iconst F dX7_trial_37 (1) (by decide) ?_
      refine g_callV 1 F (As := [.int (J (1))]) (st := []) (c_X1_hasRoomFor l D ad x y (0) (1) (by omega) (by have := hDD.1.1; omega) (by omega)) (gR_1 (by decide)) rfl mk_X7_170 ki_X1_hasRoomFor kc_X1_hasRoomFor (by decide +kernel) rfl (by decide) dX7_trial_38 rfl (Nat.le_of_ble_eq_true rfl) (pB_k ?_)
      refine g_ifb_ne 47 F dX7_trial_41 rfl (fun c_3 => ?_) (fun c_3 => ?_)
      · skip
        refine g_aload_n F dX7_trial_47 rfl 1 rfl ?_
        refine gg_Day_court F fk_X7_28 dX7_trial_48 ?_
        refine g_iconst F dX7_trial_51 (2) (by decide) ?_
        refine g_iload_n F dX7_trial_52 rfl 2 rfl ?_
        refine g_callV 2 F (As := [.int (J (2)), .int (J (i))]) (st := []) (c_X0_perform l D ad x y (2) (i) (by omega) (by have := hDD.1.1; omega) (by unfold wOK; omega) (fun q => absurd q (by decide))) (gR_0) rfl mk_X7_173 ki_X0_perform kc_X0_perform (by decide +kernel) rfl (by decide) dX7_trial_53 rfl (Nat.le_of_ble_eq_true rfl) (pV_k ?_)
        have hp := (perM_NOK (w := 2) (h := i) hN (by unfold wOK; omega) (fun q => absurd q (by decide))).2.2.2 i (by omega) (by rw [perM_at x 2 i (by decide) (by decide) (by decide) (by decide) (by decide) (by decide) (by decide)]; omega)
        refine g_aload_n F dX7_trial_56 rfl 1 rfl ?_
        refine g_aload_n F dX7_trial_57 rfl 0 rfl ?_
        refine ggN_Man_wronged F (by omega) fk_X7_183 dX7_trial_58 ?_
        refine g_if_eq 68 F dX7_trial_61 (by omega) rfl (fun c_4 => ?_) (fun c_4 => ?_)
        · skip
          refine g_iconst F dX7_trial_68 (0) (by decide) ?_
          refine gp_Day_told F fk_X7_75 dX7_trial_69 ?_
          refine g_aload_n F dX7_trial_72 rfl 0 rfl ?_
          refine ggN_Man_verdict F (by omega) fk_X7_187 dX7_trial_73 ?_
          refine g_topi (b := (perM x (2) (i)) 6 (i) (0)) (by simp [xU]) ?_
          exact g_ireturn F hR dX7_trial_76 (pI_i (by unfold sTrial; (repeat' split) <;> first | rfl | (exfalso; omega)) (by unfold sTrial; (repeat' split) <;> first | rfl | (exfalso; omega)) rfl)
        · skip
          refine g_iconst F dX7_trial_64 (1) (by decide) ?_
          refine g_goto F 69 dX7_trial_65 rfl ?_
          refine gp_Day_told F fk_X7_75 dX7_trial_69 ?_
          refine g_aload_n F dX7_trial_72 rfl 0 rfl ?_
          refine ggN_Man_verdict F (by omega) fk_X7_187 dX7_trial_73 ?_
          refine g_topi (b := (perM x (2) (i)) 6 (i) (0)) (by simp [xU]) ?_
          exact g_ireturn F hR dX7_trial_76 (pI_i (by unfold sTrial; (repeat' split) <;> first | rfl | (exfalso; omega)) (by unfold sTrial; (repeat' split) <;> first | rfl | (exfalso; omega)) rfl)
      · skip
        refine g_bipush F dX7_trial_44 (-2) (by decide) ?_
        exact g_ireturn F hR dX7_trial_46 (pI_i (by unfold sTrial; (repeat' split) <;> first | rfl | (exfalso; omega)) (by unfold sTrial; (repeat' split) <;> first | rfl | (exfalso; omega)) rfl)
    · skip
      refine g_bipush F dX7_trial_27 (-4) (by decide) ?_
      exact g_ireturn F hR dX7_trial_29 (pI_i (by unfold sTrial; (repeat' split) <;> first | rfl | (exfalso; omega)) (by unfold sTrial; (repeat' split) <;> first | rfl | (exfalso; omega)) rfl)
  · skip
    refine g_iconst F dX7_trial_8 (-1) (by decide) ?_
    exact g_ireturn F hR dX7_trial_9 (pI_i (by unfold sTrial; (repeat' split) <;> first | rfl | (exfalso; omega)) (by unfold sTrial; (repeat' split) <;> first | rfl | (exfalso; omega)) rfl)

set_option maxRecDepth 20000 in
theorem c_X7_undo (l : Launch) (D : gD) (ad : gA) (x : gX) (y : gY) (n : Int) (hn : i32 n) (hV : INV x) : gC l D ad 6 yX7_undo cX7_undo 3 (some .int) [.ref (ad 7 (0)), .int (J (n))] x y (pI ((sUndo x n).1) ((sUndo x n).2) (y)) := by
  refine g_met RX7 rfl (by decide +kernel) [(0, .ref (ad 7 (0))), (1, .int (J (n)))] rfl (Nat.le_of_ble_eq_true rfl) (fun Θ F hR => ?_)
  obtain ⟨hN, hRW, hDD, hCU, hMS⟩ := hV
  have hds := hDD.1.1
  refine g_iload_n F dX7_undo_0 rfl 1 rfl ?_
  refine g_if_lt 18 F dX7_undo_1 (by omega) rfl (fun c_1 => ?_) (fun c_1 => ?_)
  · skip
    refine g_iconst F dX7_undo_18 (-1) (by decide) ?_
    exact g_ireturn F hR dX7_undo_19 (pI_i (by unfold sUndo; (repeat' split) <;> first | rfl | (exfalso; omega)) (by unfold sUndo; (repeat' split) <;> first | rfl | (exfalso; omega)) rfl)
  · skip
    refine g_iload_n F dX7_undo_4 rfl 1 rfl ?_
    refine g_aload_n F dX7_undo_5 rfl 0 rfl ?_
    refine gg_Day_court F fk_X7_28 dX7_undo_6 ?_
    refine ggN_Court_deeds F fk_X7_166 dX7_undo_9 ?_
    refine ggN_Deeds_size F (by decide) fk_X7_120 dX7_undo_12 ?_
    refine g_icmp_le 20 F dX7_undo_15 (by omega) (by omega) rfl (fun c_2 => ?_) (fun c_2 => ?_)
    · skip
      refine g_aload_n F dX7_undo_20 rfl 0 rfl ?_
      refine gg_Day_court F fk_X7_28 dX7_undo_21 ?_
      refine ggN_Court_deeds F fk_X7_166 dX7_undo_24 ?_
      refine ggN_Deeds_size F (by decide) fk_X7_120 dX7_undo_27 ?_
      refine g_iload_n F dX7_undo_30 rfl 1 rfl ?_
      refine g_isub F dX7_undo_31 ?_
      refine g_istore_n F [(2, .int (J ((x 16 (0) (0)) - (n)))), (0, .ref (ad 7 (0))), (1, .int (J (n)))] dX7_undo_32 rfl (by decide) rfl ?_
      refine g_aload_n F dX7_undo_33 rfl 1 rfl ?_
      refine gg_Day_court F fk_X7_28 dX7_undo_34 ?_
      refine ggN_Court_deeds F fk_X7_166 dX7_undo_37 ?_
      refine g_iload_n F dX7_undo_40 rfl 2 rfl ?_
      refine gpN_Deeds_size F (by decide) fk_X7_120 dX7_undo_41 ?_
      refine g_aload_n F dX7_undo_44 rfl 1 rfl ?_
      refine gg_Day_court F fk_X7_28 dX7_undo_45 ?_
      refine g_callV 0 F (As := []) (st := []) (c_X0_actAgain l D ad (xU x 16 (0) (0) (n)) y  (dO_NO0 hN) (by rw [xU_same]; omega) (by rw [xU_same]; intro j h0 h1; exact (hDD.2 0 (by decide) (by decide) j h0 (by omega)).1)) (gR_0) rfl mk_X7_190 ki_X0_actAgain kc_X0_actAgain (by decide +kernel) rfl (by decide) dX7_undo_48 rfl (Nat.le_of_ble_eq_true rfl) (pV_k ?_)
      refine g_iload_n F dX7_undo_51 rfl 0 rfl ?_
      exact g_ireturn F hR dX7_undo_52 (pI_i (by unfold sUndo; (repeat' split) <;> first | rfl | (exfalso; omega)) (by unfold sUndo; (repeat' split) <;> first | rfl | (exfalso; omega)) rfl)
    · skip
      refine g_iconst F dX7_undo_18 (-1) (by decide) ?_
      exact g_ireturn F hR dX7_undo_19 (pI_i (by unfold sUndo; (repeat' split) <;> first | rfl | (exfalso; omega)) (by unfold sUndo; (repeat' split) <;> first | rfl | (exfalso; omega)) rfl)

set_option maxRecDepth 20000 in
theorem c_X7_keep (l : Launch) (D : gD) (ad : gA) (x : gX) (y : gY) (k : Int) (hk : i32 k) (hV : INV x) : gC l D ad 1 yX7_keep cX7_keep 2 (some .int) [.ref (ad 7 (0)), .int (J (k))] x y (pI ((sKeep x k).1) ((sKeep x k).2) (y)) := by
  refine g_met RX7 rfl (by decide +kernel) [(0, .ref (ad 7 (0))), (1, .int (J (k)))] rfl (Nat.le_of_ble_eq_true rfl) (fun Θ F hR => ?_)
  obtain ⟨hN, hRW, hDD, hCU, hMS⟩ := hV
  have hds := hDD.1.1
  refine g_iload_n F dX7_keep_0 rfl 1 rfl ?_
  refine g_callS 1 F (As := [.int (J (k))]) (st := []) (c_X7_isKeptPlace l D ad x y (k) (by omega)) rfl mk_X7_193 ki_X7_isKeptPlace kc_X7_isKeptPlace (by decide +kernel) rfl (by decide) dX7_keep_1 rfl (Nat.le_of_ble_eq_true rfl) (pB_k ?_)
  refine g_ifb_ne 9 F dX7_keep_4 rfl (fun c_1 => ?_) (fun c_1 => ?_)
  · skip
    refine g_aload_n F dX7_keep_9 rfl 0 rfl ?_
    refine gg_Day_court F fk_X7_28 dX7_keep_10 ?_
    refine ggN_Court_size F fk_X7_121 dX7_keep_13 ?_
    refine g_if_ne 22 F dX7_keep_16 (by omega) rfl (fun c_2 => ?_) (fun c_2 => ?_)
    · skip
      refine g_aload_n F dX7_keep_22 rfl 0 rfl ?_
      refine gg_Day_kept F fk_X7_34 dX7_keep_23 ?_
      refine g_iload_n F dX7_keep_26 rfl 1 rfl ?_
      refine ga_33 F (by omega) dX7_keep_27 ?_
      refine g_aload_n F dX7_keep_28 rfl 0 rfl ?_
      refine gg_Day_court F fk_X7_28 dX7_keep_29 ?_
      refine ggN_Court_deeds F fk_X7_166 dX7_keep_32 ?_
      refine g_callV 1 F (As := [.ref (ad 1 (0))]) (st := []) (c_X1_become l D ad x y (1 + k) (0) (by omega) (by omega) (by omega) (by omega)) (gR_1 (by omega)) rfl mk_X7_196 ki_X1_become kc_X1_become (by decide +kernel) rfl (by decide) dX7_keep_35 rfl (Nat.le_of_ble_eq_true rfl) (pV_k ?_)
      refine g_aload_n F dX7_keep_38 rfl 0 rfl ?_
      refine gg_Day_court F fk_X7_28 dX7_keep_39 ?_
      refine ggN_Court_deeds F fk_X7_166 dX7_keep_42 ?_
      refine ggN_Deeds_size F (by decide) fk_X7_120 dX7_keep_45 ?_
      refine g_topi (b := x 16 0 0) (by rw [xU_i (by omega), bcM_k _ _ _ _ (by decide) (by decide)]) ?_
      exact g_ireturn F hR dX7_keep_48 (pI_i (by unfold sKeep; (repeat' split) <;> first | rfl | (exfalso; omega)) (by unfold sKeep; (repeat' split) <;> first | rfl | (exfalso; omega)) rfl)
    · skip
      refine g_bipush F dX7_keep_19 (-4) (by decide) ?_
      exact g_ireturn F hR dX7_keep_21 (pI_i (by unfold sKeep; (repeat' split) <;> first | rfl | (exfalso; omega)) (by unfold sKeep; (repeat' split) <;> first | rfl | (exfalso; omega)) rfl)
  · skip
    refine g_iconst F dX7_keep_7 (-1) (by decide) ?_
    exact g_ireturn F hR dX7_keep_8 (pI_i (by unfold sKeep; (repeat' split) <;> first | rfl | (exfalso; omega)) (by unfold sKeep; (repeat' split) <;> first | rfl | (exfalso; omega)) rfl)

set_option maxRecDepth 20000 in
theorem c_X7_on (l : Launch) (D : gD) (ad : gA) (x : gX) (y : gY) (k : Int) (hk : i32 k) (hV : INV x) : gC l D ad 6 yX7_on cX7_on 2 (some .int) [.ref (ad 7 (0)), .int (J (k))] x y (pI ((sOn x k).1) ((sOn x k).2) (y)) := by
  refine g_met RX7 rfl (by decide +kernel) [(0, .ref (ad 7 (0))), (1, .int (J (k)))] rfl (Nat.le_of_ble_eq_true rfl) (fun Θ F hR => ?_)
  obtain ⟨hN, hRW, hDD, hCU, hMS⟩ := hV
  have hds := hDD.1.1
  refine g_iload_n F dX7_on_0 rfl 1 rfl ?_
  refine g_callS 1 F (As := [.int (J (k))]) (st := []) (c_X7_isKeptPlace l D ad x y (k) (by omega)) rfl mk_X7_193 ki_X7_isKeptPlace kc_X7_isKeptPlace (by decide +kernel) rfl (by decide) dX7_on_1 rfl (Nat.le_of_ble_eq_true rfl) (pB_k ?_)
  refine g_ifb_ne 9 F dX7_on_4 rfl (fun c_1 => ?_) (fun c_1 => ?_)
  · skip
    have hdk := hDD.1.2 (1 + k) (by omega) (by omega)
    refine g_aload_n F dX7_on_9 rfl 0 rfl ?_
    refine gg_Day_kept F fk_X7_34 dX7_on_10 ?_
    refine g_iload_n F dX7_on_13 rfl 1 rfl ?_
    refine ga_33 F (by omega) dX7_on_14 ?_
    refine ggN_Deeds_size F (by omega) fk_X7_120 dX7_on_15 ?_
    refine g_iconst F dX7_on_18 (-1) (by decide) ?_
    refine g_icmp_ne 28 F dX7_on_19 (by omega) (by decide) rfl (fun c_2 => ?_) (fun c_2 => ?_)
    · skip
      refine g_aload_n F dX7_on_28 rfl 0 rfl ?_
      refine gg_Day_court F fk_X7_28 dX7_on_29 ?_
      refine ggN_Court_deeds F fk_X7_166 dX7_on_32 ?_
      refine g_aload_n F dX7_on_35 rfl 0 rfl ?_
      refine gg_Day_kept F fk_X7_34 dX7_on_36 ?_
      refine g_iload_n F dX7_on_39 rfl 1 rfl ?_
      refine ga_33 F (by omega) dX7_on_40 ?_
      refine g_callV 1 F (As := [.ref (ad 1 (1 + k))]) (st := []) (c_X1_become l D ad x y (0) (1 + k) (by omega) (by omega) (by omega) (by omega)) (gR_1 (by decide)) rfl mk_X7_196 ki_X1_become kc_X1_become (by decide +kernel) rfl (by decide) dX7_on_41 rfl (Nat.le_of_ble_eq_true rfl) (pV_k ?_)
      refine g_aload_n F dX7_on_44 rfl 0 rfl ?_
      refine gg_Day_court F fk_X7_28 dX7_on_45 ?_
      refine g_callV 0 F (As := []) (st := []) (c_X0_actAgain l D ad (xU (bcM x (0) (1 + k) (x 16 (1 + k) 0)) 16 (0) 0 (x 16 (1 + k) 0)) y  (onM_NO0 (NOK_0 hN)) (by rw [xU_same]; omega) (by rw [xU_same]; exact onM_DOK (LOK_DOK (hDD.2 (1 + k) (by omega) (by omega))))) (gR_0) rfl mk_X7_190 ki_X0_actAgain kc_X0_actAgain (by decide +kernel) rfl (by decide) dX7_on_48 rfl (Nat.le_of_ble_eq_true rfl) (pV_k ?_)
      refine g_aload_n F dX7_on_51 rfl 0 rfl ?_
      refine gg_Day_court F fk_X7_28 dX7_on_52 ?_
      refine ggN_Court_deeds F fk_X7_166 dX7_on_55 ?_
      refine ggN_Deeds_size F (by decide) fk_X7_120 dX7_on_58 ?_
      refine g_topi (b := x 16 (1 + k) 0) (by rw [repM_k (by decide) (by decide) (by decide) (by decide), xU_same]) ?_
      exact g_ireturn F hR dX7_on_61 (pI_i (by unfold sOn; (repeat' split) <;> first | rfl | (exfalso; omega)) (by unfold sOn; (repeat' split) <;> first | rfl | (exfalso; omega)) rfl)
    · skip
      refine g_aload_n F dX7_on_22 rfl 0 rfl ?_
      refine g_iconst F dX7_on_23 (1) (by decide) ?_
      refine g_callV 1 F (As := [.int (J (1))]) (st := []) (c_X7_found l D ad x y (1) (by omega)) (gR_7) rfl mk_X7_90 ki_X7_found kc_X7_found (by decide +kernel) rfl (by decide) dX7_on_24 rfl (Nat.le_of_ble_eq_true rfl) (pI_k ?_)
      exact g_ireturn F hR dX7_on_27 (pI_i (by unfold sOn; (repeat' split) <;> first | rfl | (exfalso; omega)) (by unfold sOn; (repeat' split) <;> first | rfl | (exfalso; omega)) rfl)
  · skip
    refine g_iconst F dX7_on_7 (-1) (by decide) ?_
    exact g_ireturn F hR dX7_on_8 (pI_i (by unfold sOn; (repeat' split) <;> first | rfl | (exfalso; omega)) (by unfold sOn; (repeat' split) <;> first | rfl | (exfalso; omega)) rfl)

set_option maxRecDepth 20000 in
theorem c_X7_heatRefusal (l : Launch) (D : gD) (ad : gA) (x : gX) (y : gY) (h : Int) (hh : i32 h) (hN : NOK x) : gC l D ad 0 yX7_heatRefusal cX7_heatRefusal 2 (some .int) [.ref (ad 7 (0)), .int (J (h))] x y (pI (hRf x 30 h) (x) (y)) := by
  refine g_met RX7 rfl (by decide +kernel) [(0, .ref (ad 7 (0))), (1, .int (J (h)))] rfl (Nat.le_of_ble_eq_true rfl) (fun Θ F hR => ?_)
  refine g_iload_n F dX7_heatRefusal_0 rfl 1 rfl ?_
  refine g_if_lt 10 F dX7_heatRefusal_1 (by omega) rfl (fun c_1 => ?_) (fun c_1 => ?_)
  · skip
    refine g_iconst F dX7_heatRefusal_10 (-1) (by decide) ?_
    exact g_ireturn F hR dX7_heatRefusal_11 (pI_i (by unfold hRf; (repeat' split) <;> omega) rfl rfl)
  · skip
    refine g_iload_n F dX7_heatRefusal_4 rfl 1 rfl ?_
    refine g_bipush F dX7_heatRefusal_5 (30) (by decide) ?_
    refine g_icmp_le 12 F dX7_heatRefusal_7 (by omega) (by decide) rfl (fun c_2 => ?_) (fun c_2 => ?_)
    · skip
      refine g_aload_n F dX7_heatRefusal_12 rfl 0 rfl ?_
      refine gg_Day_court F fk_X7_28 dX7_heatRefusal_13 ?_
      refine ggN_Court_size F fk_X7_121 dX7_heatRefusal_16 ?_
      refine g_if_ne 27 F dX7_heatRefusal_19 (by omega) rfl (fun c_3 => ?_) (fun c_3 => ?_)
      · skip
        refine g_iconst F dX7_heatRefusal_27 (0) (by decide) ?_
        exact g_ireturn F hR dX7_heatRefusal_28 (pI_i (by unfold hRf; (repeat' split) <;> omega) rfl rfl)
      · skip
        refine g_bipush F dX7_heatRefusal_22 (-4) (by decide) ?_
        refine g_goto F 28 dX7_heatRefusal_24 rfl ?_
        exact g_ireturn F hR dX7_heatRefusal_28 (pI_i (by unfold hRf; (repeat' split) <;> omega) rfl rfl)
    · skip
      refine g_iconst F dX7_heatRefusal_10 (-1) (by decide) ?_
      exact g_ireturn F hR dX7_heatRefusal_11 (pI_i (by unfold hRf; (repeat' split) <;> omega) rfl rfl)

set_option maxRecDepth 20000 in
theorem c_X7_chanceRefusal (l : Launch) (D : gD) (ad : gA) (x : gX) (y : gY) (h : Int) (hh : i32 h) (hN : NOK x) : gC l D ad 0 yX7_chanceRefusal cX7_chanceRefusal 2 (some .int) [.ref (ad 7 (0)), .int (J (h))] x y (pI (hRf x 12 h) (x) (y)) := by
  refine g_met RX7 rfl (by decide +kernel) [(0, .ref (ad 7 (0))), (1, .int (J (h)))] rfl (Nat.le_of_ble_eq_true rfl) (fun Θ F hR => ?_)
  refine g_iload_n F dX7_chanceRefusal_0 rfl 1 rfl ?_
  refine g_if_lt 10 F dX7_chanceRefusal_1 (by omega) rfl (fun c_1 => ?_) (fun c_1 => ?_)
  · skip
    refine g_iconst F dX7_chanceRefusal_10 (-1) (by decide) ?_
    exact g_ireturn F hR dX7_chanceRefusal_11 (pI_i (by unfold hRf; (repeat' split) <;> omega) rfl rfl)
  · skip
    refine g_iload_n F dX7_chanceRefusal_4 rfl 1 rfl ?_
    refine g_bipush F dX7_chanceRefusal_5 (12) (by decide) ?_
    refine g_icmp_le 12 F dX7_chanceRefusal_7 (by omega) (by decide) rfl (fun c_2 => ?_) (fun c_2 => ?_)
    · skip
      refine g_aload_n F dX7_chanceRefusal_12 rfl 0 rfl ?_
      refine gg_Day_court F fk_X7_28 dX7_chanceRefusal_13 ?_
      refine ggN_Court_size F fk_X7_121 dX7_chanceRefusal_16 ?_
      refine g_if_ne 27 F dX7_chanceRefusal_19 (by omega) rfl (fun c_3 => ?_) (fun c_3 => ?_)
      · skip
        refine g_iconst F dX7_chanceRefusal_27 (0) (by decide) ?_
        exact g_ireturn F hR dX7_chanceRefusal_28 (pI_i (by unfold hRf; (repeat' split) <;> omega) rfl rfl)
      · skip
        refine g_bipush F dX7_chanceRefusal_22 (-4) (by decide) ?_
        refine g_goto F 28 dX7_chanceRefusal_24 rfl ?_
        exact g_ireturn F hR dX7_chanceRefusal_28 (pI_i (by unfold hRf; (repeat' split) <;> omega) rfl rfl)
    · skip
      refine g_iconst F dX7_chanceRefusal_10 (-1) (by decide) ?_
      exact g_ireturn F hR dX7_chanceRefusal_11 (pI_i (by unfold hRf; (repeat' split) <;> omega) rfl rfl)

set_option maxRecDepth 20000 in
theorem c_X7_heats (l : Launch) (D : gD) (ad : gA) (x : gX) (y : gY) (i v : Int) (hi : i32 i) (hv : i32 v) (hV : INV x) : gC l D ad 5 yX7_heats cX7_heats 3 (some .int) [.ref (ad 7 (0)), .int (J (i)), .int (J (v))] x y (pI ((sHeats x i v).1) ((sHeats x i v).2) (y)) := by
  refine g_met RX7 rfl (by decide +kernel) [(0, .ref (ad 7 (0))), (1, .int (J (i))), (2, .int (J (v)))] rfl (Nat.le_of_ble_eq_true rfl) (fun Θ F hR => ?_)
  obtain ⟨hN, hRW, hDD, hCU, hMS⟩ := hV
  refine g_aload_n F dX7_heats_0 rfl 0 rfl ?_
  refine g_iload_n F dX7_heats_1 rfl 1 rfl ?_
  refine g_callV 1 F (As := [.int (J (i))]) (st := []) (c_X7_isMan l D ad x y (i) (by omega) (by omega)) (gR_7) rfl mk_X7_122 ki_X7_isMan kc_X7_isMan (by decide +kernel) rfl (by decide) dX7_heats_2 rfl (Nat.le_of_ble_eq_true rfl) (pB_k ?_)
  refine g_ifb_eq 17 F dX7_heats_5 rfl (fun c_1 => ?_) (fun c_1 => ?_)
  · skip
    refine g_iconst F dX7_heats_17 (-1) (by decide) ?_
    exact g_ireturn F hR dX7_heats_18 (pI_i (by unfold sHeats; (repeat' split) <;> first | rfl | (exfalso; omega)) (by unfold sHeats; (repeat' split) <;> first | rfl | (exfalso; omega)) rfl)
  · skip
    refine g_iload_n F dX7_heats_8 rfl 2 rfl ?_
    refine g_if_lt 17 F dX7_heats_9 (by omega) rfl (fun c_2 => ?_) (fun c_2 => ?_)
    · skip
      refine g_iconst F dX7_heats_17 (-1) (by decide) ?_
      exact g_ireturn F hR dX7_heats_18 (pI_i (by unfold sHeats; (repeat' split) <;> first | rfl | (exfalso; omega)) (by unfold sHeats; (repeat' split) <;> first | rfl | (exfalso; omega)) rfl)
    · skip
      refine g_iload_n F dX7_heats_12 rfl 2 rfl ?_
      refine g_iconst F dX7_heats_13 (3) (by decide) ?_
      refine g_icmp_lt 19 F dX7_heats_14 (by omega) (by decide) rfl (fun c_3 => ?_) (fun c_3 => ?_)
      · skip
        have hm := hN.2.2.2 i (by omega) (by omega)
        refine g_aload_n F dX7_heats_19 rfl 0 rfl ?_
        refine gg_Day_court F fk_X7_28 dX7_heats_20 ?_
        refine g_aload_n F dX7_heats_23 rfl 0 rfl ?_
        refine gg_Day_court F fk_X7_28 dX7_heats_24 ?_
        refine ggN_Court_men F fk_X7_126 dX7_heats_27 ?_
        refine g_iload_n F dX7_heats_30 rfl 1 rfl ?_
        refine ga_32 F (by omega) dX7_heats_31 ?_
        refine g_iload_n F dX7_heats_32 rfl 2 rfl ?_
        refine g_callV 2 F (As := [.ref (ad 3 (i)), .int (J (v))]) (st := []) (c_X0_heatsTelling l D ad x y (i) (v) (by omega) (by omega) (hm) (by omega)) (gR_0) rfl mk_X7_211 ki_X0_heatsTelling kc_X0_heatsTelling (by decide +kernel) rfl (by decide) dX7_heats_33 rfl (Nat.le_of_ble_eq_true rfl) (pI_k ?_)
        exact g_ireturn F hR dX7_heats_36 (pI_i (by unfold sHeats; (repeat' split) <;> first | rfl | (exfalso; omega)) (by unfold sHeats; (repeat' split) <;> first | rfl | (exfalso; omega)) rfl)
      · skip
        refine g_iconst F dX7_heats_17 (-1) (by decide) ?_
        exact g_ireturn F hR dX7_heats_18 (pI_i (by unfold sHeats; (repeat' split) <;> first | rfl | (exfalso; omega)) (by unfold sHeats; (repeat' split) <;> first | rfl | (exfalso; omega)) rfl)

set_option maxRecDepth 20000 in
theorem c_X7_wrong (l : Launch) (D : gD) (ad : gA) (x : gX) (y : gY) (h : Int) (hh : i32 h) (hV : INV x) : gC l D ad 6 yX7_wrong cX7_wrong 3 (some .int) [.ref (ad 7 (0)), .int (J (h))] x y (pI ((sWrong x h).1) ((sWrong x h).2) (y)) := by
  refine g_met RX7 rfl (by decide +kernel) [(0, .ref (ad 7 (0))), (1, .int (J (h)))] rfl (Nat.le_of_ble_eq_true rfl) (fun Θ F hR => ?_)
  obtain ⟨hN, hRW, hDD, hCU, hMS⟩ := hV
  refine g_aload_n F dX7_wrong_0 rfl 0 rfl ?_
  refine g_iload_n F dX7_wrong_1 rfl 1 rfl ?_
  refine g_callV 1 F (As := [.int (J (h))]) (st := []) (c_X7_heatRefusal l D ad x y (h) (by omega) (by omega)) (gR_7) rfl mk_X7_202 ki_X7_heatRefusal kc_X7_heatRefusal (by decide +kernel) rfl (by decide) dX7_wrong_2 rfl (Nat.le_of_ble_eq_true rfl) (pI_k ?_)
  have hr := hRf_r x 30 h
  refine g_istore_n F [(2, .int (J (hRf x 30 (h)))), (0, .ref (ad 7 (0))), (1, .int (J (h)))] dX7_wrong_5 rfl (by decide) rfl ?_
  refine g_iload_n F dX7_wrong_6 rfl 0 rfl ?_
  refine g_if_eq 12 F dX7_wrong_7 (by omega) rfl (fun c_1 => ?_) (fun c_1 => ?_)
  · skip
    have hq := hRf_0 c_1
    refine g_aload_n F dX7_wrong_12 rfl 1 rfl ?_
    refine g_aload_n F dX7_wrong_13 rfl 1 rfl ?_
    refine gg_Day_court F fk_X7_28 dX7_wrong_14 ?_
    refine g_iload_n F dX7_wrong_17 rfl 2 rfl ?_
    refine g_callV 1 F (As := [.int (J (h))]) (st := [.ref (ad 7 (0))]) (c_X0_guiltyWrongly l D ad x y (h) (by omega) (by omega)) (gR_0) rfl mk_X7_205 ki_X0_guiltyWrongly kc_X0_guiltyWrongly (by decide +kernel) rfl (by decide) dX7_wrong_18 rfl (Nat.le_of_ble_eq_true rfl) (pI_k ?_)
    refine gp_Day_told F fk_X7_75 dX7_wrong_21 ?_
    refine g_aload_n F dX7_wrong_24 rfl 1 rfl ?_
    refine gg_Day_court F fk_X7_28 dX7_wrong_25 ?_
    refine g_iload_n F dX7_wrong_28 rfl 2 rfl ?_
    refine g_callV 1 F (As := [.int (J (h))]) (st := []) (c_X0_allWrongly l D ad (xU x 19 (0) (0) (gwU x (h))) y (h) (hN) (by omega)) (gR_0) rfl mk_X7_208 ki_X0_allWrongly kc_X0_allWrongly (by decide +kernel) rfl (by decide) dX7_wrong_29 rfl (Nat.le_of_ble_eq_true rfl) (pI_k ?_)
    exact g_ireturn F hR dX7_wrong_32 (pI_i (by unfold sWrong; (repeat' split) <;> first | rfl | (exfalso; omega)) (by unfold sWrong; (repeat' split) <;> first | rfl | (exfalso; omega)) rfl)
  · skip
    refine g_iload_n F dX7_wrong_10 rfl 0 rfl ?_
    exact g_ireturn F hR dX7_wrong_11 (pI_i (by unfold sWrong; (repeat' split) <;> first | rfl | (exfalso; omega)) (by unfold sWrong; (repeat' split) <;> first | rfl | (exfalso; omega)) rfl)

set_option maxRecDepth 20000 in
theorem c_X7_best (l : Launch) (D : gD) (ad : gA) (x : gX) (y : gY)  (hV : INV x) : gC l D ad 6 yX7_best cX7_best 5 (some .int) [.ref (ad 7 (0))] x y (pI ((sBest x).1) ((sBest x).2) (y)) := by
  refine g_met RX7 rfl (by decide +kernel) [(0, .ref (ad 7 (0)))] rfl (Nat.le_of_ble_eq_true rfl) (fun Θ F hR => ?_)
  obtain ⟨hN, hRW, hDD, hCU, hMS⟩ := hV
  have h00 := awU_r hN 0
  refine g_aload_n F dX7_best_0 rfl 0 rfl ?_
  refine gg_Day_court F fk_X7_28 dX7_best_1 ?_
  refine ggN_Court_size F fk_X7_121 dX7_best_4 ?_
  refine g_if_ne 13 F dX7_best_7 (by omega) rfl (fun c_1 => ?_) (fun c_1 => ?_)
  · skip
    refine g_iconst F dX7_best_13 (0) (by decide) ?_
    refine g_istore_n F [(1, .int (J (0))), (0, .ref (ad 7 (0)))] dX7_best_14 rfl (by decide) rfl ?_
    refine g_aload_n F dX7_best_15 rfl 1 rfl ?_
    refine gg_Day_court F fk_X7_28 dX7_best_16 ?_
    refine g_iconst F dX7_best_19 (0) (by decide) ?_
    refine g_callV 1 F (As := [.int (J (0))]) (st := []) (c_X0_allWrongly l D ad x y (0) (by omega) (by omega)) (gR_0) rfl mk_X7_208 ki_X0_allWrongly kc_X0_allWrongly (by decide +kernel) rfl (by decide) dX7_best_20 rfl (Nat.le_of_ble_eq_true rfl) (pI_k ?_)
    refine g_istore_n F [(2, .int (J (awU x (0)))), (1, .int (J (0))), (0, .ref (ad 7 (0)))] dX7_best_23 rfl (by decide) rfl ?_
    refine g_iconst F dX7_best_24 (1) (by decide) ?_
    refine g_istore_n F [(3, .int (J (1))), (2, .int (J (awU x (0)))), (1, .int (J (0))), (0, .ref (ad 7 (0)))] dX7_best_25 rfl (by decide) rfl ?_
    have L26 : ∀ (N : Nat) (b : Int) (a : Int) (j : Int), 1 ≤ j ∧ j ≤ 31 → (0 ≤ a ∧ a ≤ 6) ∧ 0 ≤ b ∧ b ≤ 30 → bsN (fun h => awU x h) (j - 1).toNat = (b, a) → (31 - j).toNat < N → gW Θ l D ad 5 26 [(0, .ref (ad 7 (0))), (1, .int (J (b))), (2, .int (J (a))), (3, .int (J (j)))] [] x y := by
      intro N
      induction N with
      | zero => intro b a j hj hr ha hFu; omega
      | succ N ih26 =>
        intro b a j hj hr ha hFu
        refine g_iload_n F dX7_best_26 rfl 3 rfl ?_
        refine g_bipush F dX7_best_27 (31) (by decide) ?_
        refine g_icmp_ge 59 F dX7_best_29 (by omega) (by decide) rfl (fun c_2 => ?_) (fun c_2 => ?_)
        · skip
          refine g_aload_n F dX7_best_59 rfl 0 rfl ?_
          refine g_iload_n F dX7_best_60 rfl 2 rfl ?_
          refine gp_Day_told F fk_X7_75 dX7_best_61 ?_
          refine g_iload_n F dX7_best_64 rfl 1 rfl ?_
          exact g_ireturn F hR dX7_best_65 (pI_i (by unfold sBest; first | (rw [if_pos (by omega)]; done) | (rw [show j = 31 by omega] at ha; rw [if_neg (by omega), show bsN (fun h => awU x h) 30 = (b, a) from ha])) (by unfold sBest; first | (rw [if_pos (by omega)]; done) | (rw [show j = 31 by omega] at ha; rw [if_neg (by omega), show bsN (fun h => awU x h) 30 = (b, a) from ha])) rfl)
        · skip
          refine g_aload_n F dX7_best_32 rfl 0 rfl ?_
          refine gg_Day_court F fk_X7_28 dX7_best_33 ?_
          refine g_iload_n F dX7_best_36 rfl 3 rfl ?_
          refine g_callV 1 F (As := [.int (J (j))]) (st := []) (c_X0_allWrongly l D ad x y (j) (by omega) (by omega)) (gR_0) rfl mk_X7_208 ki_X0_allWrongly kc_X0_allWrongly (by decide +kernel) rfl (by decide) dX7_best_37 rfl (Nat.le_of_ble_eq_true rfl) (pI_k ?_)
          have hv := awU_r hN j
          refine g_istore F [(4, .int (J (awU x (j)))), (0, .ref (ad 7 (0))), (1, .int (J (b))), (2, .int (J (a))), (3, .int (J (j)))] dX7_best_40 (by decide) rfl ?_
          refine g_iload F dX7_best_42 0 rfl ?_
          refine g_iload_n F dX7_best_44 rfl 3 rfl ?_
          refine g_icmp_ge 53 F dX7_best_45 (by omega) (by omega) rfl (fun c_3 => ?_) (fun c_3 => ?_)
          · skip
            refine g_iinc F [(3, .int (J (j + 1))), (4, .int (J (awU x (j)))), (0, .ref (ad 7 (0))), (1, .int (J (b))), (2, .int (J (a)))] 4 rfl dX7_best_53 (by decide) rfl ?_
            refine g_goto F 26 dX7_best_56 rfl ?_
            refine g_sub [2, 3, 4, 0] (lv' := [(0, .ref (ad 7 (0))), (1, .int (J (b))), (2, .int (J (a))), (3, .int (J (j + 1)))]) rfl ?_
            exact ih26 (b) (a) (j + 1) (by omega) (by omega) (by rw [bsN_s _ (by omega), ha]; first | (rw [if_pos (by show awU x j < a; omega)]; done) | (rw [if_neg (by show ¬ awU x j < a; omega)]; done)) (by omega)
          · skip
            refine g_iload F dX7_best_48 0 rfl ?_
            refine g_istore_n F [(2, .int (J (awU x (j)))), (4, .int (J (awU x (j)))), (0, .ref (ad 7 (0))), (1, .int (J (b))), (3, .int (J (j)))] dX7_best_50 rfl (by decide) rfl ?_
            refine g_iload_n F dX7_best_51 rfl 4 rfl ?_
            refine g_istore_n F [(1, .int (J (j))), (2, .int (J (awU x (j)))), (4, .int (J (awU x (j)))), (0, .ref (ad 7 (0))), (3, .int (J (j)))] dX7_best_52 rfl (by decide) rfl ?_
            refine g_iinc F [(3, .int (J (j + 1))), (1, .int (J (j))), (2, .int (J (awU x (j)))), (4, .int (J (awU x (j)))), (0, .ref (ad 7 (0)))] 4 rfl dX7_best_53 (by decide) rfl ?_
            refine g_goto F 26 dX7_best_56 rfl ?_
            refine g_sub [4, 1, 2, 0] (lv' := [(0, .ref (ad 7 (0))), (1, .int (J (j))), (2, .int (J (awU x (j)))), (3, .int (J (j + 1)))]) rfl ?_
            exact ih26 (j) (awU x (j)) (j + 1) (by omega) (by omega) (by rw [bsN_s _ (by omega), ha]; first | (rw [if_pos (by show awU x j < a; omega)]; done) | (rw [if_neg (by show ¬ awU x j < a; omega)]; done)) (by omega)
    refine g_sub [3, 2, 1, 0] (lv' := [(0, .ref (ad 7 (0))), (1, .int (J (0))), (2, .int (J (awU x (0)))), (3, .int (J (1)))]) rfl ?_
    exact L26 _ (0) (awU x (0)) (1) (by omega) (by omega) (rfl) (Nat.lt_succ_self _)
  · skip
    refine g_bipush F dX7_best_10 (-4) (by decide) ?_
    exact g_ireturn F hR dX7_best_12 (pI_i (by unfold sBest; first | (rw [if_pos (by omega)]; done) | (rw [show j = 31 by omega] at ha; rw [if_neg (by omega), show bsN (fun h => awU x h) 30 = (b, a) from ha])) (by unfold sBest; first | (rw [if_pos (by omega)]; done) | (rw [show j = 31 by omega] at ha; rw [if_neg (by omega), show bsN (fun h => awU x h) 30 = (b, a) from ha])) rfl)

set_option maxRecDepth 20000 in
theorem c_X7_comes (l : Launch) (D : gD) (ad : gA) (x : gX) (y : gY)  (hV : INV x) : gC l D ad 4 yX7_comes cX7_comes 6 (some .int) [.ref (ad 7 (0))] x y (pI ((sComesQ x).1) ((sComesQ x).2) (y)) := by
  refine g_met RX7 rfl (by decide +kernel) [(0, .ref (ad 7 (0)))] rfl (Nat.le_of_ble_eq_true rfl) (fun Θ F hR => ?_)
  obtain ⟨hN, hRW, hDD, hCU, hMS⟩ := hV
  refine g_aload_n F dX7_comes_0 rfl 0 rfl ?_
  refine gg_Day_court F fk_X7_28 dX7_comes_1 ?_
  refine ggN_Court_size F fk_X7_121 dX7_comes_4 ?_
  refine g_if_ne 13 F dX7_comes_7 (by omega) rfl (fun c_1 => ?_) (fun c_1 => ?_)
  · skip
    refine g_iconst F dX7_comes_13 (0) (by decide) ?_
    refine g_istore_n F [(1, .int (J (0))), (0, .ref (ad 7 (0)))] dX7_comes_14 rfl (by decide) rfl ?_
    refine g_iconst F dX7_comes_15 (0) (by decide) ?_
    refine g_istore_n F [(2, .int (J (0))), (1, .int (J (0))), (0, .ref (ad 7 (0)))] dX7_comes_16 rfl (by decide) rfl ?_
    refine g_iconst F dX7_comes_17 (0) (by decide) ?_
    refine g_istore_n F [(3, .int (J (0))), (2, .int (J (0))), (1, .int (J (0))), (0, .ref (ad 7 (0)))] dX7_comes_18 rfl (by decide) rfl ?_
    have L19 : ∀ (N : Nat) (a : Int) (b : Int) (j : Int), 0 ≤ j ∧ j ≤ x 10 0 0 → a = bitsZ (fun i => x 6 i 0 = -9 ∧ vU x i (x 15 0 0) ≠ 2) j → b = bitsZ (fun i => x 6 i 0 = -9 ∧ vU x i (x 15 0 0) = 1) j → (x 10 0 0 - j).toNat < N → gW Θ l D ad 6 19 [(0, .ref (ad 7 (0))), (1, .int (J (a))), (2, .int (J (b))), (3, .int (J (j)))] [] x y := by
      intro N
      induction N with
      | zero => intro a b j hj ha hb hFu; omega
      | succ N ih19 =>
        intro a b j hj ha hb hFu
        refine g_iload_n F dX7_comes_19 rfl 3 rfl ?_
        refine g_aload_n F dX7_comes_20 rfl 0 rfl ?_
        refine gg_Day_court F fk_X7_28 dX7_comes_21 ?_
        refine ggN_Court_size F fk_X7_121 dX7_comes_24 ?_
        refine g_icmp_ge 101 F dX7_comes_27 (by omega) (by omega) rfl (fun c_2 => ?_) (fun c_2 => ?_)
        · skip
          refine g_aload_n F dX7_comes_101 rfl 0 rfl ?_
          refine g_iload_n F dX7_comes_102 rfl 2 rfl ?_
          refine gp_Day_told F fk_X7_75 dX7_comes_103 ?_
          refine g_iload_n F dX7_comes_106 rfl 1 rfl ?_
          exact g_ireturn F hR dX7_comes_107 (pI_i (by unfold sComesQ; first | (rw [if_pos (by omega)]; done) | (rw [if_neg (by omega), ha, show j = x 10 0 0 by omega])) (by unfold sComesQ; first | (rw [if_pos (by omega)]; done) | (rw [if_neg (by omega), hb, show j = x 10 0 0 by omega])) rfl)
        · skip
          have hm := hN.2.2.2 j (by omega) (by omega)
          have hv := vU_r x j (x 15 0 0)
          have ra := bitZ_r (P := fun i => x 6 i 0 = -9 ∧ vU x i (x 15 0 0) ≠ 2) (n := j) (by omega)
          have rb := bitZ_r (P := fun i => x 6 i 0 = -9 ∧ vU x i (x 15 0 0) = 1) (n := j) (by omega)
          refine g_aload_n F dX7_comes_30 rfl 0 rfl ?_
          refine gg_Day_court F fk_X7_28 dX7_comes_31 ?_
          refine ggN_Court_men F fk_X7_126 dX7_comes_34 ?_
          refine g_iload_n F dX7_comes_37 rfl 3 rfl ?_
          refine ga_32 F (by omega) dX7_comes_38 ?_
          refine g_astore F [(4, .ref (ad 3 (j))), (0, .ref (ad 7 (0))), (1, .int (J (a))), (2, .int (J (b))), (3, .int (J (j)))] dX7_comes_39 (by decide) rfl ?_
          refine g_aload_n F dX7_comes_41 rfl 1 rfl ?_
          refine gg_Day_court F fk_X7_28 dX7_comes_42 ?_
          refine g_aload F dX7_comes_45 0 rfl ?_
          refine g_aload_n F dX7_comes_47 rfl 1 rfl ?_
          refine gg_Day_court F fk_X7_28 dX7_comes_48 ?_
          refine ggN_Court_heat F fk_X7_151 dX7_comes_51 ?_
          refine g_callV 2 F (As := [.ref (ad 3 (j)), .int (J (x 15 (0) (0)))]) (st := []) (c_X0_verdict l D ad x y (j) (x 15 (0) (0)) (by omega) (by omega) (hm) (by omega)) (gR_0) rfl mk_X7_200 ki_X0_verdict kc_X0_verdict (by decide +kernel) rfl (by decide) dX7_comes_54 rfl (Nat.le_of_ble_eq_true rfl) (pI_k ?_)
          refine g_istore F [(5, .int (J (vU x (j) (x 15 (0) (0))))), (4, .ref (ad 3 (j))), (0, .ref (ad 7 (0))), (1, .int (J (a))), (2, .int (J (b))), (3, .int (J (j)))] dX7_comes_57 (by decide) rfl ?_
          refine g_aload F dX7_comes_59 1 rfl ?_
          refine g_callV 0 F (As := []) (st := []) (c_X3_isTried l D ad x y (j) (by omega) (hm)) (gR_3 (by omega)) rfl mk_X7_180 ki_X3_isTried kc_X3_isTried (by decide +kernel) rfl (by decide) dX7_comes_61 rfl (Nat.le_of_ble_eq_true rfl) (pB_k ?_)
          refine g_ifb_ne 95 F dX7_comes_64 rfl (fun c_3 => ?_) (fun c_3 => ?_)
          · skip
            refine g_iinc F [(3, .int (J (j + 1))), (5, .int (J (vU x (j) (x 15 (0) (0))))), (4, .ref (ad 3 (j))), (0, .ref (ad 7 (0))), (1, .int (J (a))), (2, .int (J (b)))] 5 rfl dX7_comes_95 (by decide) rfl ?_
            refine g_goto F 19 dX7_comes_98 rfl ?_
            refine g_sub [3, 4, 5, 0] (lv' := [(0, .ref (ad 7 (0))), (1, .int (J (a))), (2, .int (J (b))), (3, .int (J (j + 1)))]) rfl ?_
            exact ih19 (a) (b) (j + 1) (by omega) (by rw [ha]; first | exact (bitsZ_y (by omega) (by omega)).symm | exact (bitsZ_n (by omega) (by omega)).symm) (by rw [hb]; first | exact (bitsZ_y (by omega) (by omega)).symm | exact (bitsZ_n (by omega) (by omega)).symm) (by omega)
          · skip
            refine g_iload F dX7_comes_67 0 rfl ?_
            refine g_iconst F dX7_comes_69 (2) (by decide) ?_
            refine g_icmp_eq 95 F dX7_comes_70 (by omega) (by decide) rfl (fun c_4 => ?_) (fun c_4 => ?_)
            · skip
              refine g_iinc F [(3, .int (J (j + 1))), (5, .int (J (vU x (j) (x 15 (0) (0))))), (4, .ref (ad 3 (j))), (0, .ref (ad 7 (0))), (1, .int (J (a))), (2, .int (J (b)))] 5 rfl dX7_comes_95 (by decide) rfl ?_
              refine g_goto F 19 dX7_comes_98 rfl ?_
              refine g_sub [3, 4, 5, 0] (lv' := [(0, .ref (ad 7 (0))), (1, .int (J (a))), (2, .int (J (b))), (3, .int (J (j + 1)))]) rfl ?_
              exact ih19 (a) (b) (j + 1) (by omega) (by rw [ha]; first | exact (bitsZ_y (by omega) (by omega)).symm | exact (bitsZ_n (by omega) (by omega)).symm) (by rw [hb]; first | exact (bitsZ_y (by omega) (by omega)).symm | exact (bitsZ_n (by omega) (by omega)).symm) (by omega)
            · skip
              refine g_iload_n F dX7_comes_73 rfl 3 rfl ?_
              refine g_iconst F dX7_comes_74 (1) (by decide) ?_
              refine g_iload_n F dX7_comes_75 rfl 5 rfl ?_
              refine g_ishl F dX7_comes_76 (p2 (j)) (J_shl (by omega)) ?_
              refine g_ior F dX7_comes_77 (a + p2 j) (J_or (by rw [ha]; exact ra.1) (by rw [ha]; exact ra.2) (by omega)) ?_
              refine g_istore_n F [(1, .int (J (a + p2 j))), (5, .int (J (vU x (j) (x 15 (0) (0))))), (4, .ref (ad 3 (j))), (0, .ref (ad 7 (0))), (2, .int (J (b))), (3, .int (J (j)))] dX7_comes_78 rfl (by decide) rfl ?_
              refine g_iload_n F dX7_comes_79 rfl 4 rfl ?_
              refine g_iload F dX7_comes_80 1 rfl ?_
              refine g_iconst F dX7_comes_82 (1) (by decide) ?_
              refine g_icmp_ne 92 F dX7_comes_83 (by omega) (by decide) rfl (fun c_5 => ?_) (fun c_5 => ?_)
              · skip
                refine g_iconst F dX7_comes_92 (0) (by decide) ?_
                refine g_ior F dX7_comes_93 (b) (J_or0 _) ?_
                refine g_istore_n F [(2, .int (J (b))), (1, .int (J (a + p2 j))), (5, .int (J (vU x (j) (x 15 (0) (0))))), (4, .ref (ad 3 (j))), (0, .ref (ad 7 (0))), (3, .int (J (j)))] dX7_comes_94 rfl (by decide) rfl ?_
                refine g_iinc F [(3, .int (J (j + 1))), (2, .int (J (b))), (1, .int (J (a + p2 j))), (5, .int (J (vU x (j) (x 15 (0) (0))))), (4, .ref (ad 3 (j))), (0, .ref (ad 7 (0)))] 5 rfl dX7_comes_95 (by decide) rfl ?_
                refine g_goto F 19 dX7_comes_98 rfl ?_
                refine g_sub [5, 2, 1, 0] (lv' := [(0, .ref (ad 7 (0))), (1, .int (J (a + p2 j))), (2, .int (J (b))), (3, .int (J (j + 1)))]) rfl ?_
                exact ih19 (a + p2 j) (b) (j + 1) (by omega) (by rw [ha]; first | exact (bitsZ_y (by omega) (by omega)).symm | exact (bitsZ_n (by omega) (by omega)).symm) (by rw [hb]; first | exact (bitsZ_y (by omega) (by omega)).symm | exact (bitsZ_n (by omega) (by omega)).symm) (by omega)
              · skip
                refine g_iconst F dX7_comes_86 (1) (by decide) ?_
                refine g_iload_n F dX7_comes_87 rfl 5 rfl ?_
                refine g_ishl F dX7_comes_88 (p2 (j)) (J_shl (by omega)) ?_
                refine g_goto F 93 dX7_comes_89 rfl ?_
                refine g_ior F dX7_comes_93 (b + p2 j) (J_or (by rw [hb]; exact rb.1) (by rw [hb]; exact rb.2) (by omega)) ?_
                refine g_istore_n F [(2, .int (J (b + p2 j))), (1, .int (J (a + p2 j))), (5, .int (J (vU x (j) (x 15 (0) (0))))), (4, .ref (ad 3 (j))), (0, .ref (ad 7 (0))), (3, .int (J (j)))] dX7_comes_94 rfl (by decide) rfl ?_
                refine g_iinc F [(3, .int (J (j + 1))), (2, .int (J (b + p2 j))), (1, .int (J (a + p2 j))), (5, .int (J (vU x (j) (x 15 (0) (0))))), (4, .ref (ad 3 (j))), (0, .ref (ad 7 (0)))] 5 rfl dX7_comes_95 (by decide) rfl ?_
                refine g_goto F 19 dX7_comes_98 rfl ?_
                refine g_sub [5, 2, 1, 0] (lv' := [(0, .ref (ad 7 (0))), (1, .int (J (a + p2 j))), (2, .int (J (b + p2 j))), (3, .int (J (j + 1)))]) rfl ?_
                exact ih19 (a + p2 j) (b + p2 j) (j + 1) (by omega) (by rw [ha]; first | exact (bitsZ_y (by omega) (by omega)).symm | exact (bitsZ_n (by omega) (by omega)).symm) (by rw [hb]; first | exact (bitsZ_y (by omega) (by omega)).symm | exact (bitsZ_n (by omega) (by omega)).symm) (by omega)
    refine g_sub [3, 2, 1, 0] (lv' := [(0, .ref (ad 7 (0))), (1, .int (J (0))), (2, .int (J (0))), (3, .int (J (0)))]) rfl ?_
    exact L19 _ (0) (0) (0) (by omega) (rfl) (rfl) (Nat.lt_succ_self _)
  · skip
    refine g_bipush F dX7_comes_10 (-4) (by decide) ?_
    exact g_ireturn F hR dX7_comes_12 (pI_i (by unfold sComesQ; first | (rw [if_pos (by omega)]; done) | (rw [if_neg (by omega), ha, show j = x 10 0 0 by omega])) (by unfold sComesQ; first | (rw [if_pos (by omega)]; done) | (rw [if_neg (by omega), hb, show j = x 10 0 0 by omega])) rfl)
