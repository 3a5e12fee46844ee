theorem awB_abU {z : gX} {i : Int} (h : z 1 i 0 = 4) : awB z i = abU z := sumZ_cong (fun k _ _ => by
  by_cases c : cU z k (z 15 0 0)
  · rw [if_neg (fun q => q.2 c), if_pos c]
  · rw [if_neg c, if_pos ⟨fun e => c (by rw [e]; exact Or.inl h), c⟩])
theorem mk_a {z : gX} {i k : Int} (h : ¬ mnN z i ∨ k < 1 ∨ 6 ≤ k) : sMark z i k = (-1, z) := by unfold sMark; rw [if_pos h]
theorem mk_b {z : gX} {i k : Int} (h : mnN z i ∧ 1 ≤ k ∧ k ≤ 5) (h2 : ¬ sOf1 (z 1 i 0) k) : sMark z i k = (-3, fnd z 3) := by unfold sMark; rw [if_neg (by omega), if_pos (by omega)]
theorem mk_c {z : gX} {i k : Int} (h : mnN z i ∧ 1 ≤ k ∧ k ≤ 5) (h2 : sOf1 (z 1 i 0) k) : sMark z i k = (mkU z i k, z) := by unfold sMark; rw [if_neg (by omega), if_neg (by omega)]
theorem mk_2 {z : gX} {i : Int} (h : z 1 i 0 = 2 ∨ z 1 i 0 = 5) : z 4 i 0 - sHard (z 1 i 0) (z 4 i 0) = z 4 i 0 - z 4 i 0 / 2 := by unfold sHard; (repeat' split) <;> omega
theorem mk_5 {z : gX} {i : Int} (h : z 1 i 0 = 5) : sFelt (z 12 0 0) 0 (z 3 i 0) (z 15 0 0) - sFelt (z 12 0 0) (z 1 i 0) (z 3 i 0) (z 15 0 0) = sPlain (z 12 0 0) (z 3 i 0) (z 15 0 0) - sPlain (z 12 0 0) (z 3 i 0) (z 15 0 0) / 2 := by unfold sFelt; rw [if_neg (by decide), if_pos h]
abbrev wbU (z : gX) (h g : Int) : Int := sumZ (fun i => if wW z i h ∧ (g = 0 ∨ z 2 i 0 = 1) then 1 else 0) (z 10 0 0)
theorem wb_0 (z : gX) (h : Int) : wbU z h 0 = awU z h := sumZ_cong (fun i _ _ => by
  by_cases c : wW z i h
  · rw [if_pos ⟨c, Or.inl rfl⟩, if_pos c]
  · rw [if_neg (fun q => c q.1), if_neg c])
theorem wb_1 (z : gX) (h : Int) : wbU z h 1 = gwU z h := sumZ_cong (fun i _ _ => by
  by_cases c : wW z i h <;> by_cases d : z 2 i 0 = 1
  · rw [if_pos ⟨c, Or.inr d⟩, if_pos ⟨d, c⟩]
  · rw [if_neg (fun q => q.2.elim (fun e => absurd e (by decide)) d), if_neg (fun q => d q.1)]
  · rw [if_neg (fun q => c q.1), if_neg (fun q => c q.2)]
  · rw [if_neg (fun q => c q.1), if_neg (fun q => d q.1)])
theorem wb_r {z : gX} (hN : NOK z) (h g : Int) : 0 ≤ wbU z h g ∧ wbU z h g ≤ 6 := by
  have a : 0 ≤ wbU z h g ∧ wbU z h g ≤ z 10 0 0 := cntZ_r hN.2.1.1
  have := hN.2.1
  omega
theorem gcZ_c (a b : Int) : gcZ a b = gcZ b a := by unfold gcZ; rw [Nat.gcd_comm]
theorem gcZ_p {a b : Int} (hb : 0 < b) : 0 < gcZ a b := by
  unfold gcZ
  have := Nat.gcd_pos_of_pos_right a.toNat (show 0 < b.toNat by omega)
  omega
abbrev tpY (y : gY) (a b : Int) : gY := yU (yU y 7 0 (a / gcZ a b)) 8 0 (b / gcZ a b)
theorem Rel_frac {z : gX} {y : gY} (h : Rel z y) {u w u' w' : Int} (e1 : (if gcZ w u = 0 then 0 else u / gcZ w u) = u') (e2 : (if gcZ w u = 0 then 1 else w / gcZ w u) = w') : Rel (tfM z u w) (yU (yU y 7 0 u') 8 0 w') := by
  unfold tfM
  rw [e1, e2]
  refine Rel_k h (fun k h1 h2 _ _ _ _ _ => by rw [xU_k h2, xU_k h1]) (fun k c => by rw [yU_k (by omega), yU_k (by omega)]) h.1.2.1 h.2.2.2.1 ?_
  obtain ⟨_, _, _, _, t⟩ := h
  refine ⟨t.1, ?_, ?_, t.2.2.2.1, t.2.2.2.2⟩
  · rw [yU_k (by decide), yU_same, xU_k (by decide), xU_same]
  · rw [yU_same, xU_same]
theorem Rel_fr1 {z : gX} {y : gY} (h : Rel z y) {u w : Int} (hw : 0 < w) : Rel (tfM z u w) (tpY y u w) := by
  have p := gcZ_p (a := u) hw
  exact Rel_frac h (by rw [gcZ_c w u, if_neg (by omega)]) (by rw [gcZ_c w u, if_neg (by omega)])
theorem Rel_fr0 {z : gX} {y : gY} (h : Rel z y) : Rel (tfM z 0 0) (tpY y 0 1) := Rel_frac h (by decide +kernel) (by decide +kernel)
theorem hRf_a {x : gX} {m h : Int} (q : ¬ (0 ≤ h ∧ h ≤ m)) : hRf x m h = -1 := by unfold hRf; rw [if_pos (by omega)]
theorem hRf_b {x : gX} {m h : Int} (q : 0 ≤ h ∧ h ≤ m) (q2 : x 10 0 0 = 0) : hRf x m h = -4 := by unfold hRf; rw [if_neg (by omega), if_pos q2]
theorem hRf_c {x : gX} {m h : Int} (q : 0 ≤ h ∧ h ≤ m) (q2 : x 10 0 0 ≠ 0) : hRf x m h = 0 := by unfold hRf; rw [if_neg (by omega), if_neg q2]
theorem isd {z : gX} {i : Int} (h0 : 0 ≤ i) (h1 : i < z 10 0 0) : (if trU z / p2 i % 2 = 1 then (1 : Int) else 0) = if z 6 i 0 ≠ -9 then 1 else 0 := by
  have := trU_bit h0 h1
  by_cases q : z 6 i 0 ≠ -9
  · rw [if_pos q, if_pos (this.mpr q)]
  · rw [if_neg q, if_neg (fun w => q (this.mp w))]
set_option maxRecDepth 20000 in
theorem c_X8_isDone (l : Launch) (D : gD) (ad : gA) (x : gX) (y : gY) (z : gX) (i : Int) (hST : ST z y) (hN : NOK z) (hB : SB z y 0) (hi : 0 ≤ i ∧ i < z 10 0 0) : gC l D ad 1 yX8_isDone cX8_isDone 2 (some .boolean) [.ref (ad 8 (0)), .int (J (i))] x y (pB (z 6 i 0 ≠ -9) (x) (y)) := by
  refine g_met RX8 rfl (by decide +kernel) [(0, .ref (ad 8 (0))), (1, .int (J (i)))] rfl (Nat.le_of_ble_eq_true rfl) (fun Θ F hR => ?_)
  have hm := hN.2.2.2 i hi.1 hi.2
  have h10 := hN.2.1
  have htr := trU_r hN
  refine g_aload_n F dX8_isDone_0 rfl 0 rfl ?_
  refine gg_Model_row F fk_X8_7 dX8_isDone_1 ?_
  refine g_iconst F dX8_isDone_4 (2) (by decide) ?_
  refine ga_40 F (by decide) dX8_isDone_5 ?_
  refine g_topi (b := trU z) (SB_01 hB) ?_
  refine g_iload_n F dX8_isDone_6 rfl 1 rfl ?_
  refine g_callS 2 F (As := [.int (J (trU z)), .int (J (i))]) (st := []) (c_X8_has l D ad x y (trU z) (i) (by omega) (by omega)) rfl mk_X8_216 ki_X8_has kc_X8_has (by decide +kernel) rfl (by decide) dX8_isDone_7 rfl (Nat.le_of_ble_eq_true rfl) (pB_k ?_)
  exact g_zreturn F hR dX8_isDone_10 (by split <;> simp) (pB_i (by exact isd hi.1 hi.2) rfl rfl)

set_option maxRecDepth 20000 in
theorem c_X8_heatOf (l : Launch) (D : gD) (ad : gA) (x : gX) (y : gY) (v : Int) (hv : i32 v) : gC l D ad 0 yX8_heatOf cX8_heatOf 1 (some .int) [.int (J (v))] x y (pI (kH v) (x) (y)) := by
  refine g_met RX8 rfl (by decide +kernel) [(0, .int (J (v)))] rfl (Nat.le_of_ble_eq_true rfl) (fun Θ F hR => ?_)
  refine g_iload_n F dX8_heatOf_0 rfl 0 rfl ?_
  refine g_if_ge 8 F dX8_heatOf_1 (by omega) rfl (fun c_1 => ?_) (fun c_1 => ?_)
  · skip
    refine g_iload_n F dX8_heatOf_8 rfl 0 rfl ?_
    refine g_bipush F dX8_heatOf_9 (30) (by decide) ?_
    refine g_icmp_le 19 F dX8_heatOf_11 (by omega) (by decide) rfl (fun c_2 => ?_) (fun c_2 => ?_)
    · skip
      refine g_iload_n F dX8_heatOf_19 rfl 0 rfl ?_
      exact g_ireturn F hR dX8_heatOf_20 (pI_i (by unfold kH; omega) rfl rfl)
    · skip
      refine g_bipush F dX8_heatOf_14 (30) (by decide) ?_
      refine g_goto F 20 dX8_heatOf_16 rfl ?_
      exact g_ireturn F hR dX8_heatOf_20 (pI_i (by unfold kH; omega) rfl rfl)
  · skip
    refine g_iconst F dX8_heatOf_4 (0) (by decide) ?_
    refine g_goto F 20 dX8_heatOf_5 rfl ?_
    exact g_ireturn F hR dX8_heatOf_20 (pI_i (by unfold kH; omega) rfl rfl)

set_option maxRecDepth 20000 in
theorem c_X8_man (l : Launch) (D : gD) (ad : gA) (x : gX) (y : gY) (z : gX) (i w : Int) (hi : i32 i) (hw : i32 w) (hRel : Rel z y) : gC l D ad 6 yX8_man cX8_man 3 (some .int) [.ref (ad 8 (0)), .int (J (i)), .int (J (w))] x y (pH (.int (J ((sMan z i w).1))) (x) (fun w9 => Rel (sMan z i w).2 w9)) := by
  refine g_met RX8 rfl (by decide +kernel) [(0, .ref (ad 8 (0))), (1, .int (J (i))), (2, .int (J (w)))] rfl (Nat.le_of_ble_eq_true rfl) (fun Θ F hR => ?_)
  have hN := hRel.1.1
  have hRW := hRel.1.2.1
  have hDD := hRel.1.2.2.1
  have hST := hRel.2.1
  have hB := Rel_SB hRel
  have h10 := hN.2.1
  have h15 := hN.2.2.1
  refine g_aload_n F dX8_man_0 rfl 0 rfl ?_
  refine g_iload_n F dX8_man_1 rfl 1 rfl ?_
  refine g_callV 1 F (As := [.int (J (i))]) (st := []) (c_X8_isMan l D ad x y z (i) (hST) (hN) (by omega)) (gR_8) rfl mk_X8_191 ki_X8_isMan kc_X8_isMan (by decide +kernel) rfl (by decide) dX8_man_2 rfl (Nat.le_of_ble_eq_true rfl) (pB_k ?_)
  refine g_ifb_eq 33 F dX8_man_5 rfl (fun c_1 => ?_) (fun c_1 => ?_)
  · skip
    refine g_iconst F dX8_man_33 (-1) (by decide) ?_
    exact g_ireturn F hR dX8_man_34 (pH_z (by unfold sMan; (repeat' split) <;> first | rfl | (exfalso; omega)) (by unfold sMan; (repeat' split) <;> first | exact hRel | exact Rel_tell hRel _ | (exfalso; omega)) rfl)
  · skip
    refine g_iload_n F dX8_man_8 rfl 2 rfl ?_
    refine g_i2l F dX8_man_9 (by omega) ?_
    refine g_lconst F dX8_man_10 0 (by decide) ?_
    refine g_ldc2 F ck_X8_194 dX8_man_11 (8) (by decide) ?_
    refine g_callS 3 F (As := [.long (Lg (w)), .long (Lg (0)), .long (Lg (8))]) (st := []) (c_X8_in l D ad x y (w) (0) (8) (by omega) (by omega) (by omega)) rfl mk_X8_74 ki_X8_in kc_X8_in (by decide +kernel) rfl (by decide) dX8_man_14 rfl (Nat.le_of_ble_eq_true rfl) (pB_k ?_)
    refine g_ifb_eq 33 F dX8_man_17 rfl (fun c_2 => ?_) (fun c_2 => ?_)
    · skip
      refine g_iconst F dX8_man_33 (-1) (by decide) ?_
      exact g_ireturn F hR dX8_man_34 (pH_z (by unfold sMan; (repeat' split) <;> first | rfl | (exfalso; omega)) (by unfold sMan; (repeat' split) <;> first | exact hRel | exact Rel_tell hRel _ | (exfalso; omega)) rfl)
    · skip
      refine g_aload_n F dX8_man_20 rfl 0 rfl ?_
      refine g_aload_n F dX8_man_21 rfl 0 rfl ?_
      refine g_iload_n F dX8_man_22 rfl 1 rfl ?_
      refine g_iload_n F dX8_man_23 rfl 2 rfl ?_
      refine g_callV 2 F (As := [.int (J (i)), .int (J (w))]) (st := [.ref (ad 8 (0))]) (c_X8_toldOf l D ad x y z (i) (w) (hST) (hN) (hB) (by omega) (by omega)) (gR_8) rfl mk_X8_196 ki_X8_toldOf kc_X8_toldOf (by decide +kernel) rfl (by decide) dX8_man_24 rfl (Nat.le_of_ble_eq_true rfl) (pI_k ?_)
      refine g_callV 1 F (As := [.int (J (dU z (i) (w)))]) (st := []) (c_X8_tell l D ad x y (dU z (i) (w)) ) (gR_8) rfl mk_X8_96 ki_X8_tell kc_X8_tell (by decide +kernel) rfl (by decide) dX8_man_27 rfl (Nat.le_of_ble_eq_true rfl) (pI_k ?_)
      refine g_goto F 34 dX8_man_30 rfl ?_
      exact g_ireturn F hR dX8_man_34 (pH_z (by unfold sMan; (repeat' split) <;> first | rfl | (exfalso; omega)) (by unfold sMan; (repeat' split) <;> first | exact hRel | exact Rel_tell hRel _ | (exfalso; omega)) rfl)

set_option maxRecDepth 20000 in
theorem c_X8_mark (l : Launch) (D : gD) (ad : gA) (x : gX) (y : gY) (z : gX) (i k : Int) (hi : i32 i) (hk : i32 k) (hRel : Rel z y) : gC l D ad 6 yX8_mark cX8_mark 3 (some .int) [.ref (ad 8 (0)), .int (J (i)), .int (J (k))] x y (pH (.int (J ((sMark z i k).1))) (x) (fun w9 => Rel (sMark z i k).2 w9)) := by
  refine g_met RX8 rfl (by decide +kernel) [(0, .ref (ad 8 (0))), (1, .int (J (i))), (2, .int (J (k)))] rfl (Nat.le_of_ble_eq_true rfl) (fun Θ F hR => ?_)
  have hN := hRel.1.1
  have hRW := hRel.1.2.1
  have hDD := hRel.1.2.2.1
  have hST := hRel.2.1
  have hB := Rel_SB hRel
  have h10 := hN.2.1
  have h15 := hN.2.2.1
  refine g_aload_n F dX8_mark_0 rfl 0 rfl ?_
  refine g_iload_n F dX8_mark_1 rfl 1 rfl ?_
  refine g_callV 1 F (As := [.int (J (i))]) (st := []) (c_X8_isMan l D ad x y z (i) (hST) (hN) (by omega)) (gR_8) rfl mk_X8_191 ki_X8_isMan kc_X8_isMan (by decide +kernel) rfl (by decide) dX8_mark_2 rfl (Nat.le_of_ble_eq_true rfl) (pB_k ?_)
  refine g_ifb_eq 20 F dX8_mark_5 rfl (fun c_1 => ?_) (fun c_1 => ?_)
  · skip
    refine g_iconst F dX8_mark_20 (-1) (by decide) ?_
    exact g_ireturn F hR dX8_mark_21 (pH_z (by first | (rw [mk_a (by omega)]; done) | (rw [mk_b (by omega) (by omega)]; done) | (rw [mk_c (by omega) (by omega)]; unfold mkU; first | (rw [if_pos hk1]; done) | (rw [if_neg (by omega), if_pos hk2]; exact (mk_2 (by omega)).symm) | (rw [if_neg (by omega), if_neg (by omega), if_pos hk3]; done) | (rw [if_neg (by omega), if_neg (by omega), if_neg (by omega), if_pos hk4]; exact awB_abU (by omega)) | (rw [if_neg (by omega), if_neg (by omega), if_neg (by omega), if_neg (by omega)]; exact (mk_5 (by omega)).symm))) (by first | (rw [mk_a (by omega)]; exact hRel) | (rw [mk_b (by omega) (by omega)]; exact Rel_find hRel (by decide)) | (rw [mk_c (by omega) (by omega)]; exact hRel)) rfl)
  · skip
    refine g_iload_n F dX8_mark_8 rfl 2 rfl ?_
    refine g_i2l F dX8_mark_9 (by omega) ?_
    refine g_lconst F dX8_mark_10 1 (by decide) ?_
    refine g_ldc2 F ck_X8_72 dX8_mark_11 (5) (by decide) ?_
    refine g_callS 3 F (As := [.long (Lg (k)), .long (Lg (1)), .long (Lg (5))]) (st := []) (c_X8_in l D ad x y (k) (1) (5) (by omega) (by omega) (by omega)) rfl mk_X8_74 ki_X8_in kc_X8_in (by decide +kernel) rfl (by decide) dX8_mark_14 rfl (Nat.le_of_ble_eq_true rfl) (pB_k ?_)
    refine g_ifb_ne 22 F dX8_mark_17 rfl (fun c_2 => ?_) (fun c_2 => ?_)
    · skip
      have hm := hN.2.2.2 i (by omega) (by omega)
      refine g_aload_n F dX8_mark_22 rfl 0 rfl ?_
      refine g_iload_n F dX8_mark_23 rfl 1 rfl ?_
      refine g_iload_n F dX8_mark_24 rfl 2 rfl ?_
      refine g_callV 2 F (As := [.int (J (i)), .int (J (k))]) (st := []) (c_X8_isOf l D ad x y z (i) (k) (hST) (hN) (by omega) (by omega)) (gR_8) rfl mk_X8_199 ki_X8_isOf kc_X8_isOf (by decide +kernel) rfl (by decide) dX8_mark_25 rfl (Nat.le_of_ble_eq_true rfl) (pB_k ?_)
      refine g_ifb_ne 37 F dX8_mark_28 rfl (fun c_3 => ?_) (fun c_3 => ?_)
      · skip
        refine g_iload_n F dX8_mark_37 rfl 2 rfl ?_
        have rs_4 : i32 (k) := (by omega)
        rcases (show k = 1 ∨ k = 2 ∨ k = 3 ∨ k = 4 ∨ (k ≠ 1 ∧ k ≠ 2 ∧ k ≠ 3 ∧ k ≠ 4) by omega) with s_4 | s_4 | s_4 | s_4 | s_4
        · skip
          refine g_switch F 68 dX8_mark_38 rs_4 (by omega) (by omega) (by rw [s_4]; rfl) rfl ?_
          have hk1 : k = 1 := by omega
          refine g_aload_n F dX8_mark_68 rfl 0 rfl ?_
          refine g_iload_n F dX8_mark_69 rfl 1 rfl ?_
          refine g_callV 1 F (As := [.int (J (i))]) (st := []) (c_X8_moreHeat l D ad x y z (i) (hST) (hN) (hB) (by omega)) (gR_8) rfl mk_X8_202 ki_X8_moreHeat kc_X8_moreHeat (by decide +kernel) rfl (by decide) dX8_mark_70 rfl (Nat.le_of_ble_eq_true rfl) (pI_k ?_)
          exact g_ireturn F hR dX8_mark_73 (pH_z (by first | (rw [mk_a (by omega)]; done) | (rw [mk_b (by omega) (by omega)]; done) | (rw [mk_c (by omega) (by omega)]; unfold mkU; first | (rw [if_pos hk1]; done) | (rw [if_neg (by omega), if_pos hk2]; exact (mk_2 (by omega)).symm) | (rw [if_neg (by omega), if_neg (by omega), if_pos hk3]; done) | (rw [if_neg (by omega), if_neg (by omega), if_neg (by omega), if_pos hk4]; exact awB_abU (by omega)) | (rw [if_neg (by omega), if_neg (by omega), if_neg (by omega), if_neg (by omega)]; exact (mk_5 (by omega)).symm))) (by first | (rw [mk_a (by omega)]; exact hRel) | (rw [mk_b (by omega) (by omega)]; exact Rel_find hRel (by decide)) | (rw [mk_c (by omega) (by omega)]; exact hRel)) rfl)
        · skip
          refine g_switch F 74 dX8_mark_38 rs_4 (by omega) (by omega) (by rw [s_4]; rfl) rfl ?_
          have hk2 : k = 2 := by omega
          refine g_aload_n F dX8_mark_74 rfl 0 rfl ?_
          refine gg_Model_hands F fk_X8_22 dX8_mark_75 ?_
          refine g_iload_n F dX8_mark_78 rfl 1 rfl ?_
          refine ga_44 F (by omega) dX8_mark_79 ?_
          refine g_topi (b := z 4 (i) 0) ((hST.2.2.2.2.2 _ (by omega) (by omega)).2.2.2) ?_
          refine g_aload_n F dX8_mark_80 rfl 0 rfl ?_
          refine gg_Model_hands F fk_X8_22 dX8_mark_81 ?_
          refine g_iload_n F dX8_mark_84 rfl 1 rfl ?_
          refine ga_44 F (by omega) dX8_mark_85 ?_
          refine g_topi (b := z 4 (i) 0) ((hST.2.2.2.2.2 _ (by omega) (by omega)).2.2.2) ?_
          refine g_iconst F dX8_mark_86 (2) (by decide) ?_
          refine g_idivp F dX8_mark_87 (by omega) (by decide) (by omega) (by decide) ?_
          refine g_isub F dX8_mark_88 ?_
          exact g_ireturn F hR dX8_mark_89 (pH_z (by first | (rw [mk_a (by omega)]; done) | (rw [mk_b (by omega) (by omega)]; done) | (rw [mk_c (by omega) (by omega)]; unfold mkU; first | (rw [if_pos hk1]; done) | (rw [if_neg (by omega), if_pos hk2]; exact (mk_2 (by omega)).symm) | (rw [if_neg (by omega), if_neg (by omega), if_pos hk3]; done) | (rw [if_neg (by omega), if_neg (by omega), if_neg (by omega), if_pos hk4]; exact awB_abU (by omega)) | (rw [if_neg (by omega), if_neg (by omega), if_neg (by omega), if_neg (by omega)]; exact (mk_5 (by omega)).symm))) (by first | (rw [mk_a (by omega)]; exact hRel) | (rw [mk_b (by omega) (by omega)]; exact Rel_find hRel (by decide)) | (rw [mk_c (by omega) (by omega)]; exact hRel)) rfl)
        · skip
          refine g_switch F 90 dX8_mark_38 rs_4 (by omega) (by omega) (by rw [s_4]; rfl) rfl ?_
          have hk3 : k = 3 := by omega
          refine g_aload_n F dX8_mark_90 rfl 0 rfl ?_
          refine gg_Model_row F fk_X8_7 dX8_mark_91 ?_
          refine g_iconst F dX8_mark_94 (1) (by decide) ?_
          refine ga_40 F (by decide) dX8_mark_95 ?_
          refine g_topi (b := z 15 0 0) (SB_00 hB) ?_
          refine g_bipush F dX8_mark_96 (10) (by decide) ?_
          refine g_isub F dX8_mark_98 ?_
          refine g_callS 1 F (As := [.int (J ((z 15 0 0) - (10)))]) (st := []) (c_X8_some l D ad x y ((z 15 0 0) - (10)) (by omega)) rfl mk_X8_163 ki_X8_some kc_X8_some (by decide +kernel) rfl (by decide) dX8_mark_99 rfl (Nat.le_of_ble_eq_true rfl) (pI_k ?_)
          exact g_ireturn F hR dX8_mark_102 (pH_z (by first | (rw [mk_a (by omega)]; done) | (rw [mk_b (by omega) (by omega)]; done) | (rw [mk_c (by omega) (by omega)]; unfold mkU; first | (rw [if_pos hk1]; done) | (rw [if_neg (by omega), if_pos hk2]; exact (mk_2 (by omega)).symm) | (rw [if_neg (by omega), if_neg (by omega), if_pos hk3]; done) | (rw [if_neg (by omega), if_neg (by omega), if_neg (by omega), if_pos hk4]; exact awB_abU (by omega)) | (rw [if_neg (by omega), if_neg (by omega), if_neg (by omega), if_neg (by omega)]; exact (mk_5 (by omega)).symm))) (by first | (rw [mk_a (by omega)]; exact hRel) | (rw [mk_b (by omega) (by omega)]; exact Rel_find hRel (by decide)) | (rw [mk_c (by omega) (by omega)]; exact hRel)) rfl)
        · skip
          refine g_switch F 103 dX8_mark_38 rs_4 (by omega) (by omega) (by rw [s_4]; rfl) rfl ?_
          have hk4 : k = 4 := by omega
          refine g_aload_n F dX8_mark_103 rfl 0 rfl ?_
          refine g_iload_n F dX8_mark_104 rfl 1 rfl ?_
          refine g_callV 1 F (As := [.int (J (i))]) (st := []) (c_X8_awayBut l D ad x y z (i) (hST) (hN) (hB) (by omega)) (gR_8) rfl mk_X8_205 ki_X8_awayBut kc_X8_awayBut (by decide +kernel) rfl (by decide) dX8_mark_105 rfl (Nat.le_of_ble_eq_true rfl) (pI_k ?_)
          exact g_ireturn F hR dX8_mark_108 (pH_z (by first | (rw [mk_a (by omega)]; done) | (rw [mk_b (by omega) (by omega)]; done) | (rw [mk_c (by omega) (by omega)]; unfold mkU; first | (rw [if_pos hk1]; done) | (rw [if_neg (by omega), if_pos hk2]; exact (mk_2 (by omega)).symm) | (rw [if_neg (by omega), if_neg (by omega), if_pos hk3]; done) | (rw [if_neg (by omega), if_neg (by omega), if_neg (by omega), if_pos hk4]; exact awB_abU (by omega)) | (rw [if_neg (by omega), if_neg (by omega), if_neg (by omega), if_neg (by omega)]; exact (mk_5 (by omega)).symm))) (by first | (rw [mk_a (by omega)]; exact hRel) | (rw [mk_b (by omega) (by omega)]; exact Rel_find hRel (by decide)) | (rw [mk_c (by omega) (by omega)]; exact hRel)) rfl)
        · skip
          refine g_switchD F 109 dX8_mark_38 rs_4 (by omega) rfl ?_
          have hk5 : k = 5 := by omega
          have hpl := sPlain_r (m := z 12 0 0) (b := z 3 i 0) (h := z 15 0 0) (by omega) (by omega)
          refine g_aload_n F dX8_mark_109 rfl 0 rfl ?_
          refine g_iload_n F dX8_mark_110 rfl 1 rfl ?_
          refine g_aload_n F dX8_mark_111 rfl 0 rfl ?_
          refine gg_Model_row F fk_X8_7 dX8_mark_112 ?_
          refine g_iconst F dX8_mark_115 (1) (by decide) ?_
          refine ga_40 F (by decide) dX8_mark_116 ?_
          refine g_topi (b := z 15 0 0) (SB_00 hB) ?_
          refine g_callV 2 F (As := [.int (J (i)), .int (J (z 15 0 0))]) (st := []) (c_X8_plainFeels l D ad x y z (i) (z 15 0 0) (hST) (hN) (by omega) (by omega)) (gR_8) rfl mk_X8_166 ki_X8_plainFeels kc_X8_plainFeels (by decide +kernel) rfl (by decide) dX8_mark_117 rfl (Nat.le_of_ble_eq_true rfl) (pI_k ?_)
          refine g_aload_n F dX8_mark_120 rfl 0 rfl ?_
          refine g_iload_n F dX8_mark_121 rfl 1 rfl ?_
          refine g_aload_n F dX8_mark_122 rfl 0 rfl ?_
          refine gg_Model_row F fk_X8_7 dX8_mark_123 ?_
          refine g_iconst F dX8_mark_126 (1) (by decide) ?_
          refine ga_40 F (by decide) dX8_mark_127 ?_
          refine g_topi (b := z 15 0 0) (SB_00 hB) ?_
          refine g_callV 2 F (As := [.int (J (i)), .int (J (z 15 0 0))]) (st := [.int (J (sPlain (z 12 0 0) (z 3 (i) 0) (z 15 0 0)))]) (c_X8_plainFeels l D ad x y z (i) (z 15 0 0) (hST) (hN) (by omega) (by omega)) (gR_8) rfl mk_X8_166 ki_X8_plainFeels kc_X8_plainFeels (by decide +kernel) rfl (by decide) dX8_mark_128 rfl (Nat.le_of_ble_eq_true rfl) (pI_k ?_)
          refine g_iconst F dX8_mark_131 (2) (by decide) ?_
          refine g_idivp F dX8_mark_132 (by omega) (by decide) (by omega) (by decide) ?_
          refine g_isub F dX8_mark_133 ?_
          exact g_ireturn F hR dX8_mark_134 (pH_z (by first | (rw [mk_a (by omega)]; done) | (rw [mk_b (by omega) (by omega)]; done) | (rw [mk_c (by omega) (by omega)]; unfold mkU; first | (rw [if_pos hk1]; done) | (rw [if_neg (by omega), if_pos hk2]; exact (mk_2 (by omega)).symm) | (rw [if_neg (by omega), if_neg (by omega), if_pos hk3]; done) | (rw [if_neg (by omega), if_neg (by omega), if_neg (by omega), if_pos hk4]; exact awB_abU (by omega)) | (rw [if_neg (by omega), if_neg (by omega), if_neg (by omega), if_neg (by omega)]; exact (mk_5 (by omega)).symm))) (by first | (rw [mk_a (by omega)]; exact hRel) | (rw [mk_b (by omega) (by omega)]; exact Rel_find hRel (by decide)) | (rw [mk_c (by omega) (by omega)]; exact hRel)) rfl)
      · skip
        refine g_aload_n F dX8_mark_31 rfl 0 rfl ?_
        refine g_iconst F dX8_mark_32 (3) (by decide) ?_
        refine g_callV 1 F (As := [.int (J (3))]) (st := []) (c_X8_find l D ad x y (3) (by omega)) (gR_8) rfl mk_X8_84 ki_X8_find kc_X8_find (by decide +kernel) rfl (by decide) dX8_mark_33 rfl (Nat.le_of_ble_eq_true rfl) (pI_k ?_)
        exact g_ireturn F hR dX8_mark_36 (pH_z (by first | (rw [mk_a (by omega)]; done) | (rw [mk_b (by omega) (by omega)]; done) | (rw [mk_c (by omega) (by omega)]; unfold mkU; first | (rw [if_pos hk1]; done) | (rw [if_neg (by omega), if_pos hk2]; exact (mk_2 (by omega)).symm) | (rw [if_neg (by omega), if_neg (by omega), if_pos hk3]; done) | (rw [if_neg (by omega), if_neg (by omega), if_neg (by omega), if_pos hk4]; exact awB_abU (by omega)) | (rw [if_neg (by omega), if_neg (by omega), if_neg (by omega), if_neg (by omega)]; exact (mk_5 (by omega)).symm))) (by first | (rw [mk_a (by omega)]; exact hRel) | (rw [mk_b (by omega) (by omega)]; exact Rel_find hRel (by decide)) | (rw [mk_c (by omega) (by omega)]; exact hRel)) rfl)
    · skip
      refine g_iconst F dX8_mark_20 (-1) (by decide) ?_
      exact g_ireturn F hR dX8_mark_21 (pH_z (by first | (rw [mk_a (by omega)]; done) | (rw [mk_b (by omega) (by omega)]; done) | (rw [mk_c (by omega) (by omega)]; unfold mkU; first | (rw [if_pos hk1]; done) | (rw [if_neg (by omega), if_pos hk2]; exact (mk_2 (by omega)).symm) | (rw [if_neg (by omega), if_neg (by omega), if_pos hk3]; done) | (rw [if_neg (by omega), if_neg (by omega), if_neg (by omega), if_pos hk4]; exact awB_abU (by omega)) | (rw [if_neg (by omega), if_neg (by omega), if_neg (by omega), if_neg (by omega)]; exact (mk_5 (by omega)).symm))) (by first | (rw [mk_a (by omega)]; exact hRel) | (rw [mk_b (by omega) (by omega)]; exact Rel_find hRel (by decide)) | (rw [mk_c (by omega) (by omega)]; exact hRel)) rfl)

set_option maxRecDepth 20000 in
theorem c_X8_comes (l : Launch) (D : gD) (ad : gA) (x : gX) (y : gY) (z : gX) (hRel : Rel z y) : gC l D ad 5 yX8_comes cX8_comes 4 (some .int) [.ref (ad 8 (0))] x y (pH (.int (J ((sComesQ z ).1))) (x) (fun w9 => Rel (sComesQ z ).2 w9)) := by
  refine g_met RX8 rfl (by decide +kernel) [(0, .ref (ad 8 (0)))] rfl (Nat.le_of_ble_eq_true rfl) (fun Θ F hR => ?_)
  have hN := hRel.1.1
  have hRW := hRel.1.2.1
  have hDD := hRel.1.2.2.1
  have hST := hRel.2.1
  have hB := Rel_SB hRel
  have h10 := hN.2.1
  have h15 := hN.2.2.1
  refine g_aload_n F dX8_comes_0 rfl 0 rfl ?_
  refine gg_Model_men F fk_X8_157 dX8_comes_1 ?_
  refine g_topi (b := z 10 0 0) (hST.2.2.2.2.1) ?_
  refine g_if_ne 10 F dX8_comes_4 (by omega) rfl (fun c_1 => ?_) (fun c_1 => ?_)
  · skip
    refine g_iconst F dX8_comes_10 (0) (by decide) ?_
    refine g_istore_n F [(1, .int (J (0))), (0, .ref (ad 8 (0)))] dX8_comes_11 rfl (by decide) rfl ?_
    refine g_aload_n F dX8_comes_12 rfl 1 rfl ?_
    refine g_iconst F dX8_comes_13 (0) (by decide) ?_
    refine gp_Model_asked F fk_X8_69 dX8_comes_14 ?_
    refine g_iconst F dX8_comes_17 (0) (by decide) ?_
    refine g_istore_n F [(2, .int (J (0))), (1, .int (J (0))), (0, .ref (ad 8 (0)))] dX8_comes_18 rfl (by decide) rfl ?_
    have L19 : ∀ (N : Nat) (a : Int) (b : Int) (j : Int), 0 ≤ j ∧ j ≤ z 10 0 0 → a = bitsZ (fun i => z 6 i 0 = -9 ∧ vU z i (z 15 0 0) ≠ 2) j → b = bitsZ (fun i => z 6 i 0 = -9 ∧ vU z i (z 15 0 0) = 1) j → (z 10 0 0 - j).toNat < N → gW Θ l D ad 4 19 [(0, .ref (ad 8 (0))), (1, .int (J (a))), (2, .int (J (j)))] [] x (yU y 6 0 b) := by
      intro N
      induction N with
      | zero => intro a b j hj ha hb hFu; omega
      | succ N ih19 =>
        intro a b j hj ha hb hFu
        refine g_iload_n F dX8_comes_19 rfl 2 rfl ?_
        refine g_aload_n F dX8_comes_20 rfl 0 rfl ?_
        refine gg_Model_men F fk_X8_157 dX8_comes_21 ?_
        refine g_topi (b := y 5 (0)) (rfl) ?_
        refine g_topi (b := z 10 0 0) (hST.2.2.2.2.1) ?_
        refine g_icmp_ge 110 F dX8_comes_24 (by omega) (by omega) rfl (fun c_2 => ?_) (fun c_2 => ?_)
        · skip
          refine g_iload_n F dX8_comes_110 rfl 1 rfl ?_
          exact g_ireturn F hR dX8_comes_111 (pH_z (by unfold sComesQ; first | (rw [if_pos (by omega)]; done) | (rw [if_neg (by omega), ha, show j = z 10 0 0 by omega])) (by unfold sComesQ; first | (rw [if_pos (by omega)]; exact hRel) | (rw [if_neg (by omega), hb, show j = z 10 0 0 by omega]; exact Rel_tell hRel _)) rfl)
        · skip
          have hm := hN.2.2.2 j (by omega) (by omega)
          have hvq : vU z j (z 15 0 0) = if cU z j (z 15 0 0) then (if 0 < lU z j (z 15 0 0) then 0 else 1) else 2 := rfl
          have ra := bitZ_r (P := fun i => z 6 i 0 = -9 ∧ vU z i (z 15 0 0) ≠ 2) (n := j) (by omega)
          have rb := bitZ_r (P := fun i => z 6 i 0 = -9 ∧ vU z i (z 15 0 0) = 1) (n := j) (by omega)
          refine g_aload_n F dX8_comes_27 rfl 0 rfl ?_
          refine g_iload_n F dX8_comes_28 rfl 2 rfl ?_
          refine g_callV 1 F (As := [.int (J (j))]) (st := []) (c_X8_isDone l D ad x (yU y 6 0 b) z (j) (hST) (hN) (hB) (by omega)) (gR_8) rfl mk_X8_219 ki_X8_isDone kc_X8_isDone (by decide +kernel) rfl (by decide) dX8_comes_29 rfl (Nat.le_of_ble_eq_true rfl) (pB_k ?_)
          refine g_ifb_ne 53 F dX8_comes_32 rfl (fun c_3 => ?_) (fun c_3 => ?_)
          · skip
            have hnc : ¬ (z 6 j 0 = -9 ∧ vU z j (z 15 0 0) ≠ 2) := fun q => by omega
            refine g_iconst F dX8_comes_53 (0) (by decide) ?_
            refine g_istore_n F [(3, .int (J (0))), (0, .ref (ad 8 (0))), (1, .int (J (a))), (2, .int (J (j)))] dX8_comes_54 rfl (by decide) rfl ?_
            refine g_iload_n F dX8_comes_55 rfl 2 rfl ?_
            refine g_iload_n F dX8_comes_56 rfl 0 rfl ?_
            refine g_if_eq 66 F dX8_comes_57 (by decide) rfl (fun c_4 => ?_) (fun c_4 => ?_)
            · skip
              refine g_iconst F dX8_comes_66 (0) (by decide) ?_
              refine g_ior F dX8_comes_67 (a) (J_or0 _) ?_
              refine g_istore_n F [(1, .int (J (a))), (3, .int (J (0))), (0, .ref (ad 8 (0))), (2, .int (J (j)))] dX8_comes_68 rfl (by decide) rfl ?_
              refine g_aload_n F dX8_comes_69 rfl 2 rfl ?_
              refine g_dup F dX8_comes_70 rfl ?_
              refine gg_Model_asked F fk_X8_69 dX8_comes_71 ?_
              refine g_topi (b := b) (yU_same _ _ _ _) ?_
              refine g_iload_n F dX8_comes_74 rfl 1 rfl ?_
              refine g_if_eq 99 F dX8_comes_75 (by decide) rfl (fun c_5 => ?_) (fun c_5 => ?_)
              · skip
                refine g_iconst F dX8_comes_99 (0) (by decide) ?_
                refine g_ior F dX8_comes_100 (b) (J_or0 _) ?_
                refine gp_Model_asked F fk_X8_69 dX8_comes_101 ?_
                refine g_iinc F [(2, .int (J (j + 1))), (1, .int (J (a))), (3, .int (J (0))), (0, .ref (ad 8 (0)))] 3 rfl dX8_comes_104 (by decide) rfl ?_
                refine g_goto F 19 dX8_comes_107 rfl ?_
                refine g_sub [3, 1, 0] (lv' := [(0, .ref (ad 8 (0))), (1, .int (J (a))), (2, .int (J (j + 1)))]) rfl ?_
                exact gW_eq (ih19 (a) (b) (j + 1) (by omega) (by rw [ha]; first | exact (bitsZ_y (P := fun i => z 6 i 0 = -9 ∧ vU z i (z 15 0 0) ≠ 2) (by omega) hyc).symm | exact (bitsZ_n (P := fun i => z 6 i 0 = -9 ∧ vU z i (z 15 0 0) ≠ 2) (by omega) hnc).symm | (exfalso; omega)) (by rw [hb]; first | exact (bitsZ_y (P := fun i => z 6 i 0 = -9 ∧ vU z i (z 15 0 0) = 1) (by omega) (by rw [hvq]; refine ⟨by omega, ?_⟩; rw [if_pos (by assumption), if_neg (by omega)])).symm | exact (bitsZ_n (P := fun i => z 6 i 0 = -9 ∧ vU z i (z 15 0 0) = 1) (by omega) (fun q => by have q2 := q.2; rw [hvq] at q2; split at q2 <;> first | (split at q2 <;> omega) | omega)).symm | exact (bitsZ_n (P := fun i => z 6 i 0 = -9 ∧ vU z i (z 15 0 0) = 1) (by omega) (fun q => hnc ⟨q.1, by omega⟩)).symm | (exfalso; omega)) (by omega)) rfl rfl rfl (rfl) (by rw [yU_yU])
              · skip
                refine g_aload_n F dX8_comes_78 rfl 2 rfl ?_
                refine g_iconst F dX8_comes_79 (0) (by decide) ?_
                refine g_iload_n F dX8_comes_80 rfl 3 rfl ?_
                refine g_aload_n F dX8_comes_81 rfl 2 rfl ?_
                refine gg_Model_row F fk_X8_7 dX8_comes_82 ?_
                refine g_iconst F dX8_comes_85 (1) (by decide) ?_
                refine ga_40 F (by decide) dX8_comes_86 ?_
                refine g_topi (b := y 40 (1)) (rfl) ?_
                refine g_topi (b := z 15 0 0) (SB_00 hB) ?_
                refine g_callV 3 F (As := [.int (J (0)), .int (J (j)), .int (J (z 15 0 0))]) (st := [.int (J (b)), .ref (ad 8 (0))]) (c_X8_isClean l D ad x (yU y 6 0 b) z (0) (j) (z 15 0 0) (hST) (hN) (hB) (by omega) (by omega) (by omega)) (gR_8) rfl mk_X8_188 ki_X8_isClean kc_X8_isClean (by decide +kernel) rfl (by decide) dX8_comes_87 rfl (Nat.le_of_ble_eq_true rfl) (pB_k ?_)
                refine g_ifb_eq 99 F dX8_comes_90 rfl (fun c_6 => ?_) (fun c_6 => ?_)
                · skip
                  refine g_iconst F dX8_comes_99 (0) (by decide) ?_
                  refine g_ior F dX8_comes_100 (b) (J_or0 _) ?_
                  refine gp_Model_asked F fk_X8_69 dX8_comes_101 ?_
                  refine g_iinc F [(2, .int (J (j + 1))), (1, .int (J (a))), (3, .int (J (0))), (0, .ref (ad 8 (0)))] 3 rfl dX8_comes_104 (by decide) rfl ?_
                  refine g_goto F 19 dX8_comes_107 rfl ?_
                  refine g_sub [3, 1, 0] (lv' := [(0, .ref (ad 8 (0))), (1, .int (J (a))), (2, .int (J (j + 1)))]) rfl ?_
                  exact gW_eq (ih19 (a) (b) (j + 1) (by omega) (by rw [ha]; first | exact (bitsZ_y (P := fun i => z 6 i 0 = -9 ∧ vU z i (z 15 0 0) ≠ 2) (by omega) hyc).symm | exact (bitsZ_n (P := fun i => z 6 i 0 = -9 ∧ vU z i (z 15 0 0) ≠ 2) (by omega) hnc).symm | (exfalso; omega)) (by rw [hb]; first | exact (bitsZ_y (P := fun i => z 6 i 0 = -9 ∧ vU z i (z 15 0 0) = 1) (by omega) (by rw [hvq]; refine ⟨by omega, ?_⟩; rw [if_pos (by assumption), if_neg (by omega)])).symm | exact (bitsZ_n (P := fun i => z 6 i 0 = -9 ∧ vU z i (z 15 0 0) = 1) (by omega) (fun q => by have q2 := q.2; rw [hvq] at q2; split at q2 <;> first | (split at q2 <;> omega) | omega)).symm | exact (bitsZ_n (P := fun i => z 6 i 0 = -9 ∧ vU z i (z 15 0 0) = 1) (by omega) (fun q => hnc ⟨q.1, by omega⟩)).symm | (exfalso; omega)) (by omega)) rfl rfl rfl (rfl) (by rw [yU_yU])
                · skip
                  refine g_iconst F dX8_comes_93 (1) (by decide) ?_
                  refine g_iload_n F dX8_comes_94 rfl 3 rfl ?_
                  refine g_ishl F dX8_comes_95 (p2 (j)) (J_shl (by omega)) ?_
                  refine g_goto F 100 dX8_comes_96 rfl ?_
                  refine g_ior F dX8_comes_100 (b + p2 j) (J_or (by rw [hb]; exact rb.1) (by rw [hb]; exact rb.2) (by omega)) ?_
                  refine gp_Model_asked F fk_X8_69 dX8_comes_101 ?_
                  refine g_iinc F [(2, .int (J (j + 1))), (1, .int (J (a))), (3, .int (J (0))), (0, .ref (ad 8 (0)))] 3 rfl dX8_comes_104 (by decide) rfl ?_
                  refine g_goto F 19 dX8_comes_107 rfl ?_
                  refine g_sub [3, 1, 0] (lv' := [(0, .ref (ad 8 (0))), (1, .int (J (a))), (2, .int (J (j + 1)))]) rfl ?_
                  exact gW_eq (ih19 (a) (b + p2 j) (j + 1) (by omega) (by rw [ha]; first | exact (bitsZ_y (P := fun i => z 6 i 0 = -9 ∧ vU z i (z 15 0 0) ≠ 2) (by omega) hyc).symm | exact (bitsZ_n (P := fun i => z 6 i 0 = -9 ∧ vU z i (z 15 0 0) ≠ 2) (by omega) hnc).symm | (exfalso; omega)) (by rw [hb]; first | exact (bitsZ_y (P := fun i => z 6 i 0 = -9 ∧ vU z i (z 15 0 0) = 1) (by omega) (by rw [hvq]; refine ⟨by omega, ?_⟩; rw [if_pos (by assumption), if_neg (by omega)])).symm | exact (bitsZ_n (P := fun i => z 6 i 0 = -9 ∧ vU z i (z 15 0 0) = 1) (by omega) (fun q => by have q2 := q.2; rw [hvq] at q2; split at q2 <;> first | (split at q2 <;> omega) | omega)).symm | exact (bitsZ_n (P := fun i => z 6 i 0 = -9 ∧ vU z i (z 15 0 0) = 1) (by omega) (fun q => hnc ⟨q.1, by omega⟩)).symm | (exfalso; omega)) (by omega)) rfl rfl rfl (rfl) (by rw [yU_yU])
            · skip
              refine g_iconst F dX8_comes_60 (1) (by decide) ?_
              refine g_iload_n F dX8_comes_61 rfl 3 rfl ?_
              refine g_ishl F dX8_comes_62 (p2 (j)) (J_shl (by omega)) ?_
              refine g_goto F 67 dX8_comes_63 rfl ?_
              refine g_ior F dX8_comes_67 (a + p2 j) (J_or (by rw [ha]; exact ra.1) (by rw [ha]; exact ra.2) (by omega)) ?_
              refine g_istore_n F [(1, .int (J (a + p2 j))), (3, .int (J (0))), (0, .ref (ad 8 (0))), (2, .int (J (j)))] dX8_comes_68 rfl (by decide) rfl ?_
              refine g_aload_n F dX8_comes_69 rfl 2 rfl ?_
              refine g_dup F dX8_comes_70 rfl ?_
              refine gg_Model_asked F fk_X8_69 dX8_comes_71 ?_
              refine g_topi (b := b) (yU_same _ _ _ _) ?_
              refine g_iload_n F dX8_comes_74 rfl 1 rfl ?_
              refine g_if_eq 99 F dX8_comes_75 (by decide) rfl (fun c_7 => ?_) (fun c_7 => ?_)
              · skip
                refine g_iconst F dX8_comes_99 (0) (by decide) ?_
                refine g_ior F dX8_comes_100 (b) (J_or0 _) ?_
                refine gp_Model_asked F fk_X8_69 dX8_comes_101 ?_
                refine g_iinc F [(2, .int (J (j + 1))), (1, .int (J (a + p2 j))), (3, .int (J (0))), (0, .ref (ad 8 (0)))] 3 rfl dX8_comes_104 (by decide) rfl ?_
                refine g_goto F 19 dX8_comes_107 rfl ?_
                refine g_sub [3, 1, 0] (lv' := [(0, .ref (ad 8 (0))), (1, .int (J (a + p2 j))), (2, .int (J (j + 1)))]) rfl ?_
                exact gW_eq (ih19 (a + p2 j) (b) (j + 1) (by omega) (by rw [ha]; first | exact (bitsZ_y (P := fun i => z 6 i 0 = -9 ∧ vU z i (z 15 0 0) ≠ 2) (by omega) hyc).symm | exact (bitsZ_n (P := fun i => z 6 i 0 = -9 ∧ vU z i (z 15 0 0) ≠ 2) (by omega) hnc).symm | (exfalso; omega)) (by rw [hb]; first | exact (bitsZ_y (P := fun i => z 6 i 0 = -9 ∧ vU z i (z 15 0 0) = 1) (by omega) (by rw [hvq]; refine ⟨by omega, ?_⟩; rw [if_pos (by assumption), if_neg (by omega)])).symm | exact (bitsZ_n (P := fun i => z 6 i 0 = -9 ∧ vU z i (z 15 0 0) = 1) (by omega) (fun q => by have q2 := q.2; rw [hvq] at q2; split at q2 <;> first | (split at q2 <;> omega) | omega)).symm | exact (bitsZ_n (P := fun i => z 6 i 0 = -9 ∧ vU z i (z 15 0 0) = 1) (by omega) (fun q => hnc ⟨q.1, by omega⟩)).symm | (exfalso; omega)) (by omega)) rfl rfl rfl (rfl) (by rw [yU_yU])
              · skip
                refine g_aload_n F dX8_comes_78 rfl 2 rfl ?_
                refine g_iconst F dX8_comes_79 (0) (by decide) ?_
                refine g_iload_n F dX8_comes_80 rfl 3 rfl ?_
                refine g_aload_n F dX8_comes_81 rfl 2 rfl ?_
                refine gg_Model_row F fk_X8_7 dX8_comes_82 ?_
                refine g_iconst F dX8_comes_85 (1) (by decide) ?_
                refine ga_40 F (by decide) dX8_comes_86 ?_
                refine g_topi (b := y 40 (1)) (rfl) ?_
                refine g_topi (b := z 15 0 0) (SB_00 hB) ?_
                refine g_callV 3 F (As := [.int (J (0)), .int (J (j)), .int (J (z 15 0 0))]) (st := [.int (J (b)), .ref (ad 8 (0))]) (c_X8_isClean l D ad x (yU y 6 0 b) z (0) (j) (z 15 0 0) (hST) (hN) (hB) (by omega) (by omega) (by omega)) (gR_8) rfl mk_X8_188 ki_X8_isClean kc_X8_isClean (by decide +kernel) rfl (by decide) dX8_comes_87 rfl (Nat.le_of_ble_eq_true rfl) (pB_k ?_)
                refine g_ifb_eq 99 F dX8_comes_90 rfl (fun c_8 => ?_) (fun c_8 => ?_)
                · skip
                  refine g_iconst F dX8_comes_99 (0) (by decide) ?_
                  refine g_ior F dX8_comes_100 (b) (J_or0 _) ?_
                  refine gp_Model_asked F fk_X8_69 dX8_comes_101 ?_
                  refine g_iinc F [(2, .int (J (j + 1))), (1, .int (J (a + p2 j))), (3, .int (J (0))), (0, .ref (ad 8 (0)))] 3 rfl dX8_comes_104 (by decide) rfl ?_
                  refine g_goto F 19 dX8_comes_107 rfl ?_
                  refine g_sub [3, 1, 0] (lv' := [(0, .ref (ad 8 (0))), (1, .int (J (a + p2 j))), (2, .int (J (j + 1)))]) rfl ?_
                  exact gW_eq (ih19 (a + p2 j) (b) (j + 1) (by omega) (by rw [ha]; first | exact (bitsZ_y (P := fun i => z 6 i 0 = -9 ∧ vU z i (z 15 0 0) ≠ 2) (by omega) hyc).symm | exact (bitsZ_n (P := fun i => z 6 i 0 = -9 ∧ vU z i (z 15 0 0) ≠ 2) (by omega) hnc).symm | (exfalso; omega)) (by rw [hb]; first | exact (bitsZ_y (P := fun i => z 6 i 0 = -9 ∧ vU z i (z 15 0 0) = 1) (by omega) (by rw [hvq]; refine ⟨by omega, ?_⟩; rw [if_pos (by assumption), if_neg (by omega)])).symm | exact (bitsZ_n (P := fun i => z 6 i 0 = -9 ∧ vU z i (z 15 0 0) = 1) (by omega) (fun q => by have q2 := q.2; rw [hvq] at q2; split at q2 <;> first | (split at q2 <;> omega) | omega)).symm | exact (bitsZ_n (P := fun i => z 6 i 0 = -9 ∧ vU z i (z 15 0 0) = 1) (by omega) (fun q => hnc ⟨q.1, by omega⟩)).symm | (exfalso; omega)) (by omega)) rfl rfl rfl (rfl) (by rw [yU_yU])
                · skip
                  refine g_iconst F dX8_comes_93 (1) (by decide) ?_
                  refine g_iload_n F dX8_comes_94 rfl 3 rfl ?_
                  refine g_ishl F dX8_comes_95 (p2 (j)) (J_shl (by omega)) ?_
                  refine g_goto F 100 dX8_comes_96 rfl ?_
                  refine g_ior F dX8_comes_100 (b + p2 j) (J_or (by rw [hb]; exact rb.1) (by rw [hb]; exact rb.2) (by omega)) ?_
                  refine gp_Model_asked F fk_X8_69 dX8_comes_101 ?_
                  refine g_iinc F [(2, .int (J (j + 1))), (1, .int (J (a + p2 j))), (3, .int (J (0))), (0, .ref (ad 8 (0)))] 3 rfl dX8_comes_104 (by decide) rfl ?_
                  refine g_goto F 19 dX8_comes_107 rfl ?_
                  refine g_sub [3, 1, 0] (lv' := [(0, .ref (ad 8 (0))), (1, .int (J (a + p2 j))), (2, .int (J (j + 1)))]) rfl ?_
                  exact gW_eq (ih19 (a + p2 j) (b + p2 j) (j + 1) (by omega) (by rw [ha]; first | exact (bitsZ_y (P := fun i => z 6 i 0 = -9 ∧ vU z i (z 15 0 0) ≠ 2) (by omega) hyc).symm | exact (bitsZ_n (P := fun i => z 6 i 0 = -9 ∧ vU z i (z 15 0 0) ≠ 2) (by omega) hnc).symm | (exfalso; omega)) (by rw [hb]; first | exact (bitsZ_y (P := fun i => z 6 i 0 = -9 ∧ vU z i (z 15 0 0) = 1) (by omega) (by rw [hvq]; refine ⟨by omega, ?_⟩; rw [if_pos (by assumption), if_neg (by omega)])).symm | exact (bitsZ_n (P := fun i => z 6 i 0 = -9 ∧ vU z i (z 15 0 0) = 1) (by omega) (fun q => by have q2 := q.2; rw [hvq] at q2; split at q2 <;> first | (split at q2 <;> omega) | omega)).symm | exact (bitsZ_n (P := fun i => z 6 i 0 = -9 ∧ vU z i (z 15 0 0) = 1) (by omega) (fun q => hnc ⟨q.1, by omega⟩)).symm | (exfalso; omega)) (by omega)) rfl rfl rfl (rfl) (by rw [yU_yU])
          · skip
            refine g_aload_n F dX8_comes_35 rfl 0 rfl ?_
            refine g_iload_n F dX8_comes_36 rfl 2 rfl ?_
            refine g_aload_n F dX8_comes_37 rfl 0 rfl ?_
            refine gg_Model_row F fk_X8_7 dX8_comes_38 ?_
            refine g_iconst F dX8_comes_41 (1) (by decide) ?_
            refine ga_40 F (by decide) dX8_comes_42 ?_
            refine g_topi (b := y 40 (1)) (rfl) ?_
            refine g_topi (b := z 15 0 0) (SB_00 hB) ?_
            refine g_callV 2 F (As := [.int (J (j)), .int (J (z 15 0 0))]) (st := []) (c_X8_doesCome l D ad x (yU y 6 0 b) z (j) (z 15 0 0) (hST) (hN) (by omega) (by omega)) (gR_8) rfl mk_X8_185 ki_X8_doesCome kc_X8_doesCome (by decide +kernel) rfl (by decide) dX8_comes_43 rfl (Nat.le_of_ble_eq_true rfl) (pB_k ?_)
            refine g_ifb_eq 53 F dX8_comes_46 rfl (fun c_9 => ?_) (fun c_9 => ?_)
            · skip
              have hnc : ¬ (z 6 j 0 = -9 ∧ vU z j (z 15 0 0) ≠ 2) := fun q => q.2 (by rw [hvq, if_neg c_9])
              refine g_iconst F dX8_comes_53 (0) (by decide) ?_
              refine g_istore_n F [(3, .int (J (0))), (0, .ref (ad 8 (0))), (1, .int (J (a))), (2, .int (J (j)))] dX8_comes_54 rfl (by decide) rfl ?_
              refine g_iload_n F dX8_comes_55 rfl 2 rfl ?_
              refine g_iload_n F dX8_comes_56 rfl 0 rfl ?_
              refine g_if_eq 66 F dX8_comes_57 (by decide) rfl (fun c_10 => ?_) (fun c_10 => ?_)
              · skip
                refine g_iconst F dX8_comes_66 (0) (by decide) ?_
                refine g_ior F dX8_comes_67 (a) (J_or0 _) ?_
                refine g_istore_n F [(1, .int (J (a))), (3, .int (J (0))), (0, .ref (ad 8 (0))), (2, .int (J (j)))] dX8_comes_68 rfl (by decide) rfl ?_
                refine g_aload_n F dX8_comes_69 rfl 2 rfl ?_
                refine g_dup F dX8_comes_70 rfl ?_
                refine gg_Model_asked F fk_X8_69 dX8_comes_71 ?_
                refine g_topi (b := b) (yU_same _ _ _ _) ?_
                refine g_iload_n F dX8_comes_74 rfl 1 rfl ?_
                refine g_if_eq 99 F dX8_comes_75 (by decide) rfl (fun c_11 => ?_) (fun c_11 => ?_)
                · skip
                  refine g_iconst F dX8_comes_99 (0) (by decide) ?_
                  refine g_ior F dX8_comes_100 (b) (J_or0 _) ?_
                  refine gp_Model_asked F fk_X8_69 dX8_comes_101 ?_
                  refine g_iinc F [(2, .int (J (j + 1))), (1, .int (J (a))), (3, .int (J (0))), (0, .ref (ad 8 (0)))] 3 rfl dX8_comes_104 (by decide) rfl ?_
                  refine g_goto F 19 dX8_comes_107 rfl ?_
                  refine g_sub [3, 1, 0] (lv' := [(0, .ref (ad 8 (0))), (1, .int (J (a))), (2, .int (J (j + 1)))]) rfl ?_
                  exact gW_eq (ih19 (a) (b) (j + 1) (by omega) (by rw [ha]; first | exact (bitsZ_y (P := fun i => z 6 i 0 = -9 ∧ vU z i (z 15 0 0) ≠ 2) (by omega) hyc).symm | exact (bitsZ_n (P := fun i => z 6 i 0 = -9 ∧ vU z i (z 15 0 0) ≠ 2) (by omega) hnc).symm | (exfalso; omega)) (by rw [hb]; first | exact (bitsZ_y (P := fun i => z 6 i 0 = -9 ∧ vU z i (z 15 0 0) = 1) (by omega) (by rw [hvq]; refine ⟨by omega, ?_⟩; rw [if_pos (by assumption), if_neg (by omega)])).symm | exact (bitsZ_n (P := fun i => z 6 i 0 = -9 ∧ vU z i (z 15 0 0) = 1) (by omega) (fun q => by have q2 := q.2; rw [hvq] at q2; split at q2 <;> first | (split at q2 <;> omega) | omega)).symm | exact (bitsZ_n (P := fun i => z 6 i 0 = -9 ∧ vU z i (z 15 0 0) = 1) (by omega) (fun q => hnc ⟨q.1, by omega⟩)).symm | (exfalso; omega)) (by omega)) rfl rfl rfl (rfl) (by rw [yU_yU])
                · skip
                  refine g_aload_n F dX8_comes_78 rfl 2 rfl ?_
                  refine g_iconst F dX8_comes_79 (0) (by decide) ?_
                  refine g_iload_n F dX8_comes_80 rfl 3 rfl ?_
                  refine g_aload_n F dX8_comes_81 rfl 2 rfl ?_
                  refine gg_Model_row F fk_X8_7 dX8_comes_82 ?_
                  refine g_iconst F dX8_comes_85 (1) (by decide) ?_
                  refine ga_40 F (by decide) dX8_comes_86 ?_
                  refine g_topi (b := y 40 (1)) (rfl) ?_
                  refine g_topi (b := z 15 0 0) (SB_00 hB) ?_
                  refine g_callV 3 F (As := [.int (J (0)), .int (J (j)), .int (J (z 15 0 0))]) (st := [.int (J (b)), .ref (ad 8 (0))]) (c_X8_isClean l D ad x (yU y 6 0 b) z (0) (j) (z 15 0 0) (hST) (hN) (hB) (by omega) (by omega) (by omega)) (gR_8) rfl mk_X8_188 ki_X8_isClean kc_X8_isClean (by decide +kernel) rfl (by decide) dX8_comes_87 rfl (Nat.le_of_ble_eq_true rfl) (pB_k ?_)
                  refine g_ifb_eq 99 F dX8_comes_90 rfl (fun c_12 => ?_) (fun c_12 => ?_)
                  · skip
                    refine g_iconst F dX8_comes_99 (0) (by decide) ?_
                    refine g_ior F dX8_comes_100 (b) (J_or0 _) ?_
                    refine gp_Model_asked F fk_X8_69 dX8_comes_101 ?_
                    refine g_iinc F [(2, .int (J (j + 1))), (1, .int (J (a))), (3, .int (J (0))), (0, .ref (ad 8 (0)))] 3 rfl dX8_comes_104 (by decide) rfl ?_
                    refine g_goto F 19 dX8_comes_107 rfl ?_
                    refine g_sub [3, 1, 0] (lv' := [(0, .ref (ad 8 (0))), (1, .int (J (a))), (2, .int (J (j + 1)))]) rfl ?_
                    exact gW_eq (ih19 (a) (b) (j + 1) (by omega) (by rw [ha]; first | exact (bitsZ_y (P := fun i => z 6 i 0 = -9 ∧ vU z i (z 15 0 0) ≠ 2) (by omega) hyc).symm | exact (bitsZ_n (P := fun i => z 6 i 0 = -9 ∧ vU z i (z 15 0 0) ≠ 2) (by omega) hnc).symm | (exfalso; omega)) (by rw [hb]; first | exact (bitsZ_y (P := fun i => z 6 i 0 = -9 ∧ vU z i (z 15 0 0) = 1) (by omega) (by rw [hvq]; refine ⟨by omega, ?_⟩; rw [if_pos (by assumption), if_neg (by omega)])).symm | exact (bitsZ_n (P := fun i => z 6 i 0 = -9 ∧ vU z i (z 15 0 0) = 1) (by omega) (fun q => by have q2 := q.2; rw [hvq] at q2; split at q2 <;> first | (split at q2 <;> omega) | omega)).symm | exact (bitsZ_n (P := fun i => z 6 i 0 = -9 ∧ vU z i (z 15 0 0) = 1) (by omega) (fun q => hnc ⟨q.1, by omega⟩)).symm | (exfalso; omega)) (by omega)) rfl rfl rfl (rfl) (by rw [yU_yU])
                  · skip
                    refine g_iconst F dX8_comes_93 (1) (by decide) ?_
                    refine g_iload_n F dX8_comes_94 rfl 3 rfl ?_
                    refine g_ishl F dX8_comes_95 (p2 (j)) (J_shl (by omega)) ?_
                    refine g_goto F 100 dX8_comes_96 rfl ?_
                    refine g_ior F dX8_comes_100 (b + p2 j) (J_or (by rw [hb]; exact rb.1) (by rw [hb]; exact rb.2) (by omega)) ?_
                    refine gp_Model_asked F fk_X8_69 dX8_comes_101 ?_
                    refine g_iinc F [(2, .int (J (j + 1))), (1, .int (J (a))), (3, .int (J (0))), (0, .ref (ad 8 (0)))] 3 rfl dX8_comes_104 (by decide) rfl ?_
                    refine g_goto F 19 dX8_comes_107 rfl ?_
                    refine g_sub [3, 1, 0] (lv' := [(0, .ref (ad 8 (0))), (1, .int (J (a))), (2, .int (J (j + 1)))]) rfl ?_
                    exact gW_eq (ih19 (a) (b + p2 j) (j + 1) (by omega) (by rw [ha]; first | exact (bitsZ_y (P := fun i => z 6 i 0 = -9 ∧ vU z i (z 15 0 0) ≠ 2) (by omega) hyc).symm | exact (bitsZ_n (P := fun i => z 6 i 0 = -9 ∧ vU z i (z 15 0 0) ≠ 2) (by omega) hnc).symm | (exfalso; omega)) (by rw [hb]; first | exact (bitsZ_y (P := fun i => z 6 i 0 = -9 ∧ vU z i (z 15 0 0) = 1) (by omega) (by rw [hvq]; refine ⟨by omega, ?_⟩; rw [if_pos (by assumption), if_neg (by omega)])).symm | exact (bitsZ_n (P := fun i => z 6 i 0 = -9 ∧ vU z i (z 15 0 0) = 1) (by omega) (fun q => by have q2 := q.2; rw [hvq] at q2; split at q2 <;> first | (split at q2 <;> omega) | omega)).symm | exact (bitsZ_n (P := fun i => z 6 i 0 = -9 ∧ vU z i (z 15 0 0) = 1) (by omega) (fun q => hnc ⟨q.1, by omega⟩)).symm | (exfalso; omega)) (by omega)) rfl rfl rfl (rfl) (by rw [yU_yU])
              · skip
                refine g_iconst F dX8_comes_60 (1) (by decide) ?_
                refine g_iload_n F dX8_comes_61 rfl 3 rfl ?_
                refine g_ishl F dX8_comes_62 (p2 (j)) (J_shl (by omega)) ?_
                refine g_goto F 67 dX8_comes_63 rfl ?_
                refine g_ior F dX8_comes_67 (a + p2 j) (J_or (by rw [ha]; exact ra.1) (by rw [ha]; exact ra.2) (by omega)) ?_
                refine g_istore_n F [(1, .int (J (a + p2 j))), (3, .int (J (0))), (0, .ref (ad 8 (0))), (2, .int (J (j)))] dX8_comes_68 rfl (by decide) rfl ?_
                refine g_aload_n F dX8_comes_69 rfl 2 rfl ?_
                refine g_dup F dX8_comes_70 rfl ?_
                refine gg_Model_asked F fk_X8_69 dX8_comes_71 ?_
                refine g_topi (b := b) (yU_same _ _ _ _) ?_
                refine g_iload_n F dX8_comes_74 rfl 1 rfl ?_
                refine g_if_eq 99 F dX8_comes_75 (by decide) rfl (fun c_13 => ?_) (fun c_13 => ?_)
                · skip
                  refine g_iconst F dX8_comes_99 (0) (by decide) ?_
                  refine g_ior F dX8_comes_100 (b) (J_or0 _) ?_
                  refine gp_Model_asked F fk_X8_69 dX8_comes_101 ?_
                  refine g_iinc F [(2, .int (J (j + 1))), (1, .int (J (a + p2 j))), (3, .int (J (0))), (0, .ref (ad 8 (0)))] 3 rfl dX8_comes_104 (by decide) rfl ?_
                  refine g_goto F 19 dX8_comes_107 rfl ?_
                  refine g_sub [3, 1, 0] (lv' := [(0, .ref (ad 8 (0))), (1, .int (J (a + p2 j))), (2, .int (J (j + 1)))]) rfl ?_
                  exact gW_eq (ih19 (a + p2 j) (b) (j + 1) (by omega) (by rw [ha]; first | exact (bitsZ_y (P := fun i => z 6 i 0 = -9 ∧ vU z i (z 15 0 0) ≠ 2) (by omega) hyc).symm | exact (bitsZ_n (P := fun i => z 6 i 0 = -9 ∧ vU z i (z 15 0 0) ≠ 2) (by omega) hnc).symm | (exfalso; omega)) (by rw [hb]; first | exact (bitsZ_y (P := fun i => z 6 i 0 = -9 ∧ vU z i (z 15 0 0) = 1) (by omega) (by rw [hvq]; refine ⟨by omega, ?_⟩; rw [if_pos (by assumption), if_neg (by omega)])).symm | exact (bitsZ_n (P := fun i => z 6 i 0 = -9 ∧ vU z i (z 15 0 0) = 1) (by omega) (fun q => by have q2 := q.2; rw [hvq] at q2; split at q2 <;> first | (split at q2 <;> omega) | omega)).symm | exact (bitsZ_n (P := fun i => z 6 i 0 = -9 ∧ vU z i (z 15 0 0) = 1) (by omega) (fun q => hnc ⟨q.1, by omega⟩)).symm | (exfalso; omega)) (by omega)) rfl rfl rfl (rfl) (by rw [yU_yU])
                · skip
                  refine g_aload_n F dX8_comes_78 rfl 2 rfl ?_
                  refine g_iconst F dX8_comes_79 (0) (by decide) ?_
                  refine g_iload_n F dX8_comes_80 rfl 3 rfl ?_
                  refine g_aload_n F dX8_comes_81 rfl 2 rfl ?_
                  refine gg_Model_row F fk_X8_7 dX8_comes_82 ?_
                  refine g_iconst F dX8_comes_85 (1) (by decide) ?_
                  refine ga_40 F (by decide) dX8_comes_86 ?_
                  refine g_topi (b := y 40 (1)) (rfl) ?_
                  refine g_topi (b := z 15 0 0) (SB_00 hB) ?_
                  refine g_callV 3 F (As := [.int (J (0)), .int (J (j)), .int (J (z 15 0 0))]) (st := [.int (J (b)), .ref (ad 8 (0))]) (c_X8_isClean l D ad x (yU y 6 0 b) z (0) (j) (z 15 0 0) (hST) (hN) (hB) (by omega) (by omega) (by omega)) (gR_8) rfl mk_X8_188 ki_X8_isClean kc_X8_isClean (by decide +kernel) rfl (by decide) dX8_comes_87 rfl (Nat.le_of_ble_eq_true rfl) (pB_k ?_)
                  refine g_ifb_eq 99 F dX8_comes_90 rfl (fun c_14 => ?_) (fun c_14 => ?_)
                  · skip
                    refine g_iconst F dX8_comes_99 (0) (by decide) ?_
                    refine g_ior F dX8_comes_100 (b) (J_or0 _) ?_
                    refine gp_Model_asked F fk_X8_69 dX8_comes_101 ?_
                    refine g_iinc F [(2, .int (J (j + 1))), (1, .int (J (a + p2 j))), (3, .int (J (0))), (0, .ref (ad 8 (0)))] 3 rfl dX8_comes_104 (by decide) rfl ?_
                    refine g_goto F 19 dX8_comes_107 rfl ?_
                    refine g_sub [3, 1, 0] (lv' := [(0, .ref (ad 8 (0))), (1, .int (J (a + p2 j))), (2, .int (J (j + 1)))]) rfl ?_
                    exact gW_eq (ih19 (a + p2 j) (b) (j + 1) (by omega) (by rw [ha]; first | exact (bitsZ_y (P := fun i => z 6 i 0 = -9 ∧ vU z i (z 15 0 0) ≠ 2) (by omega) hyc).symm | exact (bitsZ_n (P := fun i => z 6 i 0 = -9 ∧ vU z i (z 15 0 0) ≠ 2) (by omega) hnc).symm | (exfalso; omega)) (by rw [hb]; first | exact (bitsZ_y (P := fun i => z 6 i 0 = -9 ∧ vU z i (z 15 0 0) = 1) (by omega) (by rw [hvq]; refine ⟨by omega, ?_⟩; rw [if_pos (by assumption), if_neg (by omega)])).symm | exact (bitsZ_n (P := fun i => z 6 i 0 = -9 ∧ vU z i (z 15 0 0) = 1) (by omega) (fun q => by have q2 := q.2; rw [hvq] at q2; split at q2 <;> first | (split at q2 <;> omega) | omega)).symm | exact (bitsZ_n (P := fun i => z 6 i 0 = -9 ∧ vU z i (z 15 0 0) = 1) (by omega) (fun q => hnc ⟨q.1, by omega⟩)).symm | (exfalso; omega)) (by omega)) rfl rfl rfl (rfl) (by rw [yU_yU])
                  · skip
                    refine g_iconst F dX8_comes_93 (1) (by decide) ?_
                    refine g_iload_n F dX8_comes_94 rfl 3 rfl ?_
                    refine g_ishl F dX8_comes_95 (p2 (j)) (J_shl (by omega)) ?_
                    refine g_goto F 100 dX8_comes_96 rfl ?_
                    refine g_ior F dX8_comes_100 (b + p2 j) (J_or (by rw [hb]; exact rb.1) (by rw [hb]; exact rb.2) (by omega)) ?_
                    refine gp_Model_asked F fk_X8_69 dX8_comes_101 ?_
                    refine g_iinc F [(2, .int (J (j + 1))), (1, .int (J (a + p2 j))), (3, .int (J (0))), (0, .ref (ad 8 (0)))] 3 rfl dX8_comes_104 (by decide) rfl ?_
                    refine g_goto F 19 dX8_comes_107 rfl ?_
                    refine g_sub [3, 1, 0] (lv' := [(0, .ref (ad 8 (0))), (1, .int (J (a + p2 j))), (2, .int (J (j + 1)))]) rfl ?_
                    exact gW_eq (ih19 (a + p2 j) (b + p2 j) (j + 1) (by omega) (by rw [ha]; first | exact (bitsZ_y (P := fun i => z 6 i 0 = -9 ∧ vU z i (z 15 0 0) ≠ 2) (by omega) hyc).symm | exact (bitsZ_n (P := fun i => z 6 i 0 = -9 ∧ vU z i (z 15 0 0) ≠ 2) (by omega) hnc).symm | (exfalso; omega)) (by rw [hb]; first | exact (bitsZ_y (P := fun i => z 6 i 0 = -9 ∧ vU z i (z 15 0 0) = 1) (by omega) (by rw [hvq]; refine ⟨by omega, ?_⟩; rw [if_pos (by assumption), if_neg (by omega)])).symm | exact (bitsZ_n (P := fun i => z 6 i 0 = -9 ∧ vU z i (z 15 0 0) = 1) (by omega) (fun q => by have q2 := q.2; rw [hvq] at q2; split at q2 <;> first | (split at q2 <;> omega) | omega)).symm | exact (bitsZ_n (P := fun i => z 6 i 0 = -9 ∧ vU z i (z 15 0 0) = 1) (by omega) (fun q => hnc ⟨q.1, by omega⟩)).symm | (exfalso; omega)) (by omega)) rfl rfl rfl (rfl) (by rw [yU_yU])
            · skip
              have hyc : z 6 j 0 = -9 ∧ vU z j (z 15 0 0) ≠ 2 := ⟨by omega, by rw [hvq, if_pos c_9]; split <;> omega⟩
              refine g_iconst F dX8_comes_49 (1) (by decide) ?_
              refine g_goto F 54 dX8_comes_50 rfl ?_
              refine g_istore_n F [(3, .int (J (1))), (0, .ref (ad 8 (0))), (1, .int (J (a))), (2, .int (J (j)))] dX8_comes_54 rfl (by decide) rfl ?_
              refine g_iload_n F dX8_comes_55 rfl 2 rfl ?_
              refine g_iload_n F dX8_comes_56 rfl 0 rfl ?_
              refine g_if_eq 66 F dX8_comes_57 (by decide) rfl (fun c_15 => ?_) (fun c_15 => ?_)
              · skip
                refine g_iconst F dX8_comes_66 (0) (by decide) ?_
                refine g_ior F dX8_comes_67 (a) (J_or0 _) ?_
                refine g_istore_n F [(1, .int (J (a))), (3, .int (J (1))), (0, .ref (ad 8 (0))), (2, .int (J (j)))] dX8_comes_68 rfl (by decide) rfl ?_
                refine g_aload_n F dX8_comes_69 rfl 2 rfl ?_
                refine g_dup F dX8_comes_70 rfl ?_
                refine gg_Model_asked F fk_X8_69 dX8_comes_71 ?_
                refine g_topi (b := b) (yU_same _ _ _ _) ?_
                refine g_iload_n F dX8_comes_74 rfl 1 rfl ?_
                refine g_if_eq 99 F dX8_comes_75 (by decide) rfl (fun c_16 => ?_) (fun c_16 => ?_)
                · skip
                  refine g_iconst F dX8_comes_99 (0) (by decide) ?_
                  refine g_ior F dX8_comes_100 (b) (J_or0 _) ?_
                  refine gp_Model_asked F fk_X8_69 dX8_comes_101 ?_
                  refine g_iinc F [(2, .int (J (j + 1))), (1, .int (J (a))), (3, .int (J (1))), (0, .ref (ad 8 (0)))] 3 rfl dX8_comes_104 (by decide) rfl ?_
                  refine g_goto F 19 dX8_comes_107 rfl ?_
                  refine g_sub [3, 1, 0] (lv' := [(0, .ref (ad 8 (0))), (1, .int (J (a))), (2, .int (J (j + 1)))]) rfl ?_
                  exact gW_eq (ih19 (a) (b) (j + 1) (by omega) (by rw [ha]; first | exact (bitsZ_y (P := fun i => z 6 i 0 = -9 ∧ vU z i (z 15 0 0) ≠ 2) (by omega) hyc).symm | exact (bitsZ_n (P := fun i => z 6 i 0 = -9 ∧ vU z i (z 15 0 0) ≠ 2) (by omega) hnc).symm | (exfalso; omega)) (by rw [hb]; first | exact (bitsZ_y (P := fun i => z 6 i 0 = -9 ∧ vU z i (z 15 0 0) = 1) (by omega) (by rw [hvq]; refine ⟨by omega, ?_⟩; rw [if_pos (by assumption), if_neg (by omega)])).symm | exact (bitsZ_n (P := fun i => z 6 i 0 = -9 ∧ vU z i (z 15 0 0) = 1) (by omega) (fun q => by have q2 := q.2; rw [hvq] at q2; split at q2 <;> first | (split at q2 <;> omega) | omega)).symm | exact (bitsZ_n (P := fun i => z 6 i 0 = -9 ∧ vU z i (z 15 0 0) = 1) (by omega) (fun q => hnc ⟨q.1, by omega⟩)).symm | (exfalso; omega)) (by omega)) rfl rfl rfl (rfl) (by rw [yU_yU])
                · skip
                  refine g_aload_n F dX8_comes_78 rfl 2 rfl ?_
                  refine g_iconst F dX8_comes_79 (0) (by decide) ?_
                  refine g_iload_n F dX8_comes_80 rfl 3 rfl ?_
                  refine g_aload_n F dX8_comes_81 rfl 2 rfl ?_
                  refine gg_Model_row F fk_X8_7 dX8_comes_82 ?_
                  refine g_iconst F dX8_comes_85 (1) (by decide) ?_
                  refine ga_40 F (by decide) dX8_comes_86 ?_
                  refine g_topi (b := y 40 (1)) (rfl) ?_
                  refine g_topi (b := z 15 0 0) (SB_00 hB) ?_
                  refine g_callV 3 F (As := [.int (J (0)), .int (J (j)), .int (J (z 15 0 0))]) (st := [.int (J (b)), .ref (ad 8 (0))]) (c_X8_isClean l D ad x (yU y 6 0 b) z (0) (j) (z 15 0 0) (hST) (hN) (hB) (by omega) (by omega) (by omega)) (gR_8) rfl mk_X8_188 ki_X8_isClean kc_X8_isClean (by decide +kernel) rfl (by decide) dX8_comes_87 rfl (Nat.le_of_ble_eq_true rfl) (pB_k ?_)
                  refine g_ifb_eq 99 F dX8_comes_90 rfl (fun c_17 => ?_) (fun c_17 => ?_)
                  · skip
                    refine g_iconst F dX8_comes_99 (0) (by decide) ?_
                    refine g_ior F dX8_comes_100 (b) (J_or0 _) ?_
                    refine gp_Model_asked F fk_X8_69 dX8_comes_101 ?_
                    refine g_iinc F [(2, .int (J (j + 1))), (1, .int (J (a))), (3, .int (J (1))), (0, .ref (ad 8 (0)))] 3 rfl dX8_comes_104 (by decide) rfl ?_
                    refine g_goto F 19 dX8_comes_107 rfl ?_
                    refine g_sub [3, 1, 0] (lv' := [(0, .ref (ad 8 (0))), (1, .int (J (a))), (2, .int (J (j + 1)))]) rfl ?_
                    exact gW_eq (ih19 (a) (b) (j + 1) (by omega) (by rw [ha]; first | exact (bitsZ_y (P := fun i => z 6 i 0 = -9 ∧ vU z i (z 15 0 0) ≠ 2) (by omega) hyc).symm | exact (bitsZ_n (P := fun i => z 6 i 0 = -9 ∧ vU z i (z 15 0 0) ≠ 2) (by omega) hnc).symm | (exfalso; omega)) (by rw [hb]; first | exact (bitsZ_y (P := fun i => z 6 i 0 = -9 ∧ vU z i (z 15 0 0) = 1) (by omega) (by rw [hvq]; refine ⟨by omega, ?_⟩; rw [if_pos (by assumption), if_neg (by omega)])).symm | exact (bitsZ_n (P := fun i => z 6 i 0 = -9 ∧ vU z i (z 15 0 0) = 1) (by omega) (fun q => by have q2 := q.2; rw [hvq] at q2; split at q2 <;> first | (split at q2 <;> omega) | omega)).symm | exact (bitsZ_n (P := fun i => z 6 i 0 = -9 ∧ vU z i (z 15 0 0) = 1) (by omega) (fun q => hnc ⟨q.1, by omega⟩)).symm | (exfalso; omega)) (by omega)) rfl rfl rfl (rfl) (by rw [yU_yU])
                  · skip
                    refine g_iconst F dX8_comes_93 (1) (by decide) ?_
                    refine g_iload_n F dX8_comes_94 rfl 3 rfl ?_
                    refine g_ishl F dX8_comes_95 (p2 (j)) (J_shl (by omega)) ?_
                    refine g_goto F 100 dX8_comes_96 rfl ?_
                    refine g_ior F dX8_comes_100 (b + p2 j) (J_or (by rw [hb]; exact rb.1) (by rw [hb]; exact rb.2) (by omega)) ?_
                    refine gp_Model_asked F fk_X8_69 dX8_comes_101 ?_
                    refine g_iinc F [(2, .int (J (j + 1))), (1, .int (J (a))), (3, .int (J (1))), (0, .ref (ad 8 (0)))] 3 rfl dX8_comes_104 (by decide) rfl ?_
                    refine g_goto F 19 dX8_comes_107 rfl ?_
                    refine g_sub [3, 1, 0] (lv' := [(0, .ref (ad 8 (0))), (1, .int (J (a))), (2, .int (J (j + 1)))]) rfl ?_
                    exact gW_eq (ih19 (a) (b + p2 j) (j + 1) (by omega) (by rw [ha]; first | exact (bitsZ_y (P := fun i => z 6 i 0 = -9 ∧ vU z i (z 15 0 0) ≠ 2) (by omega) hyc).symm | exact (bitsZ_n (P := fun i => z 6 i 0 = -9 ∧ vU z i (z 15 0 0) ≠ 2) (by omega) hnc).symm | (exfalso; omega)) (by rw [hb]; first | exact (bitsZ_y (P := fun i => z 6 i 0 = -9 ∧ vU z i (z 15 0 0) = 1) (by omega) (by rw [hvq]; refine ⟨by omega, ?_⟩; rw [if_pos (by assumption), if_neg (by omega)])).symm | exact (bitsZ_n (P := fun i => z 6 i 0 = -9 ∧ vU z i (z 15 0 0) = 1) (by omega) (fun q => by have q2 := q.2; rw [hvq] at q2; split at q2 <;> first | (split at q2 <;> omega) | omega)).symm | exact (bitsZ_n (P := fun i => z 6 i 0 = -9 ∧ vU z i (z 15 0 0) = 1) (by omega) (fun q => hnc ⟨q.1, by omega⟩)).symm | (exfalso; omega)) (by omega)) rfl rfl rfl (rfl) (by rw [yU_yU])
              · skip
                refine g_iconst F dX8_comes_60 (1) (by decide) ?_
                refine g_iload_n F dX8_comes_61 rfl 3 rfl ?_
                refine g_ishl F dX8_comes_62 (p2 (j)) (J_shl (by omega)) ?_
                refine g_goto F 67 dX8_comes_63 rfl ?_
                refine g_ior F dX8_comes_67 (a + p2 j) (J_or (by rw [ha]; exact ra.1) (by rw [ha]; exact ra.2) (by omega)) ?_
                refine g_istore_n F [(1, .int (J (a + p2 j))), (3, .int (J (1))), (0, .ref (ad 8 (0))), (2, .int (J (j)))] dX8_comes_68 rfl (by decide) rfl ?_
                refine g_aload_n F dX8_comes_69 rfl 2 rfl ?_
                refine g_dup F dX8_comes_70 rfl ?_
                refine gg_Model_asked F fk_X8_69 dX8_comes_71 ?_
                refine g_topi (b := b) (yU_same _ _ _ _) ?_
                refine g_iload_n F dX8_comes_74 rfl 1 rfl ?_
                refine g_if_eq 99 F dX8_comes_75 (by decide) rfl (fun c_18 => ?_) (fun c_18 => ?_)
                · skip
                  refine g_iconst F dX8_comes_99 (0) (by decide) ?_
                  refine g_ior F dX8_comes_100 (b) (J_or0 _) ?_
                  refine gp_Model_asked F fk_X8_69 dX8_comes_101 ?_
                  refine g_iinc F [(2, .int (J (j + 1))), (1, .int (J (a + p2 j))), (3, .int (J (1))), (0, .ref (ad 8 (0)))] 3 rfl dX8_comes_104 (by decide) rfl ?_
                  refine g_goto F 19 dX8_comes_107 rfl ?_
                  refine g_sub [3, 1, 0] (lv' := [(0, .ref (ad 8 (0))), (1, .int (J (a + p2 j))), (2, .int (J (j + 1)))]) rfl ?_
                  exact gW_eq (ih19 (a + p2 j) (b) (j + 1) (by omega) (by rw [ha]; first | exact (bitsZ_y (P := fun i => z 6 i 0 = -9 ∧ vU z i (z 15 0 0) ≠ 2) (by omega) hyc).symm | exact (bitsZ_n (P := fun i => z 6 i 0 = -9 ∧ vU z i (z 15 0 0) ≠ 2) (by omega) hnc).symm | (exfalso; omega)) (by rw [hb]; first | exact (bitsZ_y (P := fun i => z 6 i 0 = -9 ∧ vU z i (z 15 0 0) = 1) (by omega) (by rw [hvq]; refine ⟨by omega, ?_⟩; rw [if_pos (by assumption), if_neg (by omega)])).symm | exact (bitsZ_n (P := fun i => z 6 i 0 = -9 ∧ vU z i (z 15 0 0) = 1) (by omega) (fun q => by have q2 := q.2; rw [hvq] at q2; split at q2 <;> first | (split at q2 <;> omega) | omega)).symm | exact (bitsZ_n (P := fun i => z 6 i 0 = -9 ∧ vU z i (z 15 0 0) = 1) (by omega) (fun q => hnc ⟨q.1, by omega⟩)).symm | (exfalso; omega)) (by omega)) rfl rfl rfl (rfl) (by rw [yU_yU])
                · skip
                  refine g_aload_n F dX8_comes_78 rfl 2 rfl ?_
                  refine g_iconst F dX8_comes_79 (0) (by decide) ?_
                  refine g_iload_n F dX8_comes_80 rfl 3 rfl ?_
                  refine g_aload_n F dX8_comes_81 rfl 2 rfl ?_
                  refine gg_Model_row F fk_X8_7 dX8_comes_82 ?_
                  refine g_iconst F dX8_comes_85 (1) (by decide) ?_
                  refine ga_40 F (by decide) dX8_comes_86 ?_
                  refine g_topi (b := y 40 (1)) (rfl) ?_
                  refine g_topi (b := z 15 0 0) (SB_00 hB) ?_
                  refine g_callV 3 F (As := [.int (J (0)), .int (J (j)), .int (J (z 15 0 0))]) (st := [.int (J (b)), .ref (ad 8 (0))]) (c_X8_isClean l D ad x (yU y 6 0 b) z (0) (j) (z 15 0 0) (hST) (hN) (hB) (by omega) (by omega) (by omega)) (gR_8) rfl mk_X8_188 ki_X8_isClean kc_X8_isClean (by decide +kernel) rfl (by decide) dX8_comes_87 rfl (Nat.le_of_ble_eq_true rfl) (pB_k ?_)
                  refine g_ifb_eq 99 F dX8_comes_90 rfl (fun c_19 => ?_) (fun c_19 => ?_)
                  · skip
                    refine g_iconst F dX8_comes_99 (0) (by decide) ?_
                    refine g_ior F dX8_comes_100 (b) (J_or0 _) ?_
                    refine gp_Model_asked F fk_X8_69 dX8_comes_101 ?_
                    refine g_iinc F [(2, .int (J (j + 1))), (1, .int (J (a + p2 j))), (3, .int (J (1))), (0, .ref (ad 8 (0)))] 3 rfl dX8_comes_104 (by decide) rfl ?_
                    refine g_goto F 19 dX8_comes_107 rfl ?_
                    refine g_sub [3, 1, 0] (lv' := [(0, .ref (ad 8 (0))), (1, .int (J (a + p2 j))), (2, .int (J (j + 1)))]) rfl ?_
                    exact gW_eq (ih19 (a + p2 j) (b) (j + 1) (by omega) (by rw [ha]; first | exact (bitsZ_y (P := fun i => z 6 i 0 = -9 ∧ vU z i (z 15 0 0) ≠ 2) (by omega) hyc).symm | exact (bitsZ_n (P := fun i => z 6 i 0 = -9 ∧ vU z i (z 15 0 0) ≠ 2) (by omega) hnc).symm | (exfalso; omega)) (by rw [hb]; first | exact (bitsZ_y (P := fun i => z 6 i 0 = -9 ∧ vU z i (z 15 0 0) = 1) (by omega) (by rw [hvq]; refine ⟨by omega, ?_⟩; rw [if_pos (by assumption), if_neg (by omega)])).symm | exact (bitsZ_n (P := fun i => z 6 i 0 = -9 ∧ vU z i (z 15 0 0) = 1) (by omega) (fun q => by have q2 := q.2; rw [hvq] at q2; split at q2 <;> first | (split at q2 <;> omega) | omega)).symm | exact (bitsZ_n (P := fun i => z 6 i 0 = -9 ∧ vU z i (z 15 0 0) = 1) (by omega) (fun q => hnc ⟨q.1, by omega⟩)).symm | (exfalso; omega)) (by omega)) rfl rfl rfl (rfl) (by rw [yU_yU])
                  · skip
                    refine g_iconst F dX8_comes_93 (1) (by decide) ?_
                    refine g_iload_n F dX8_comes_94 rfl 3 rfl ?_
                    refine g_ishl F dX8_comes_95 (p2 (j)) (J_shl (by omega)) ?_
                    refine g_goto F 100 dX8_comes_96 rfl ?_
                    refine g_ior F dX8_comes_100 (b + p2 j) (J_or (by rw [hb]; exact rb.1) (by rw [hb]; exact rb.2) (by omega)) ?_
                    refine gp_Model_asked F fk_X8_69 dX8_comes_101 ?_
                    refine g_iinc F [(2, .int (J (j + 1))), (1, .int (J (a + p2 j))), (3, .int (J (1))), (0, .ref (ad 8 (0)))] 3 rfl dX8_comes_104 (by decide) rfl ?_
                    refine g_goto F 19 dX8_comes_107 rfl ?_
                    refine g_sub [3, 1, 0] (lv' := [(0, .ref (ad 8 (0))), (1, .int (J (a + p2 j))), (2, .int (J (j + 1)))]) rfl ?_
                    exact gW_eq (ih19 (a + p2 j) (b + p2 j) (j + 1) (by omega) (by rw [ha]; first | exact (bitsZ_y (P := fun i => z 6 i 0 = -9 ∧ vU z i (z 15 0 0) ≠ 2) (by omega) hyc).symm | exact (bitsZ_n (P := fun i => z 6 i 0 = -9 ∧ vU z i (z 15 0 0) ≠ 2) (by omega) hnc).symm | (exfalso; omega)) (by rw [hb]; first | exact (bitsZ_y (P := fun i => z 6 i 0 = -9 ∧ vU z i (z 15 0 0) = 1) (by omega) (by rw [hvq]; refine ⟨by omega, ?_⟩; rw [if_pos (by assumption), if_neg (by omega)])).symm | exact (bitsZ_n (P := fun i => z 6 i 0 = -9 ∧ vU z i (z 15 0 0) = 1) (by omega) (fun q => by have q2 := q.2; rw [hvq] at q2; split at q2 <;> first | (split at q2 <;> omega) | omega)).symm | exact (bitsZ_n (P := fun i => z 6 i 0 = -9 ∧ vU z i (z 15 0 0) = 1) (by omega) (fun q => hnc ⟨q.1, by omega⟩)).symm | (exfalso; omega)) (by omega)) rfl rfl rfl (rfl) (by rw [yU_yU])
    refine g_sub [2, 1, 0] (lv' := [(0, .ref (ad 8 (0))), (1, .int (J (0))), (2, .int (J (0)))]) rfl ?_
    exact L19 _ (0) (0) (0) (by omega) (rfl) (rfl) (Nat.lt_succ_self _)
  · skip
    refine g_bipush F dX8_comes_7 (-4) (by decide) ?_
    exact g_ireturn F hR dX8_comes_9 (pH_z (by unfold sComesQ; first | (rw [if_pos (by omega)]; done) | (rw [if_neg (by omega), ha, show j = z 10 0 0 by omega])) (by unfold sComesQ; first | (rw [if_pos (by omega)]; exact hRel) | (rw [if_neg (by omega), hb, show j = z 10 0 0 by omega]; exact Rel_tell hRel _)) rfl)

set_option maxRecDepth 20000 in
theorem c_X8_wrongBy (l : Launch) (D : gD) (ad : gA) (x : gX) (y : gY) (z : gX) (h g : Int) (hST : ST z y) (hN : NOK z) (hB : SB z y 0) (hh : 0 ≤ h ∧ h ≤ 100) (hg : 0 ≤ g ∧ g ≤ 1) : gC l D ad 6 yX8_wrongBy cX8_wrongBy 6 (some .int) [.ref (ad 8 (0)), .int (J (h)), .int (J (g))] x y (pI (wbU z h g) (x) (y)) := by
  refine g_met RX8 rfl (by decide +kernel) [(0, .ref (ad 8 (0))), (1, .int (J (h))), (2, .int (J (g)))] rfl (Nat.le_of_ble_eq_true rfl) (fun Θ F hR => ?_)
  have h10 := hN.2.1
  refine g_iconst F dX8_wrongBy_0 (0) (by decide) ?_
  refine g_istore_n F [(3, .int (J (0))), (0, .ref (ad 8 (0))), (1, .int (J (h))), (2, .int (J (g)))] dX8_wrongBy_1 rfl (by decide) rfl ?_
  refine g_iconst F dX8_wrongBy_2 (0) (by decide) ?_
  refine g_istore F [(4, .int (J (0))), (3, .int (J (0))), (0, .ref (ad 8 (0))), (1, .int (J (h))), (2, .int (J (g)))] dX8_wrongBy_3 (by decide) rfl ?_
  have L5 : ∀ (N : Nat) (a : Int) (j : Int), 0 ≤ j ∧ j ≤ z 10 0 0 → a = sumZ (fun i => if wW z i h ∧ (g = 0 ∨ z 2 i 0 = 1) then 1 else 0) j → (z 10 0 0 - j).toNat < N → gW Θ l D ad 6 5 [(0, .ref (ad 8 (0))), (1, .int (J (h))), (2, .int (J (g))), (3, .int (J (a))), (4, .int (J (j)))] [] x y := by
    intro N
    induction N with
    | zero => intro a j hj ha hFu; omega
    | succ N ih5 =>
      intro a j hj ha hFu
      refine g_iload F dX8_wrongBy_5 4 rfl ?_
      refine g_aload_n F dX8_wrongBy_7 rfl 0 rfl ?_
      refine gg_Model_men F fk_X8_157 dX8_wrongBy_8 ?_
      refine g_topi (b := z 10 0 0) (hST.2.2.2.2.1) ?_
      refine g_icmp_ge 81 F dX8_wrongBy_11 (by omega) (by omega) rfl (fun c_1 => ?_) (fun c_1 => ?_)
      · skip
        refine g_iload_n F dX8_wrongBy_81 rfl 3 rfl ?_
        exact g_ireturn F hR dX8_wrongBy_82 (pI_i (by exact ha.trans (by rw [show j = z 10 0 0 by omega])) rfl rfl)
      · skip
        have hm := hN.2.2.2 j (by omega) (by omega)
        have hv := vU_r z j h
        refine g_aload_n F dX8_wrongBy_14 rfl 0 rfl ?_
        refine g_iload F dX8_wrongBy_15 4 rfl ?_
        refine g_callV 1 F (As := [.int (J (j))]) (st := []) (c_X8_isDone l D ad x y z (j) (hST) (hN) (hB) (by omega)) (gR_8) rfl mk_X8_219 ki_X8_isDone kc_X8_isDone (by decide +kernel) rfl (by decide) dX8_wrongBy_17 rfl (Nat.le_of_ble_eq_true rfl) (pB_k ?_)
        refine g_ifb_ne 44 F dX8_wrongBy_20 rfl (fun c_2 => ?_) (fun c_2 => ?_)
        · skip
          refine g_iconst F dX8_wrongBy_44 (0) (by decide) ?_
          refine g_istore F [(5, .int (J (0))), (0, .ref (ad 8 (0))), (1, .int (J (h))), (2, .int (J (g))), (3, .int (J (a))), (4, .int (J (j)))] dX8_wrongBy_45 (by decide) rfl ?_
          refine g_iload_n F dX8_wrongBy_47 rfl 4 rfl ?_
          refine g_iload F dX8_wrongBy_48 0 rfl ?_
          refine g_if_eq 72 F dX8_wrongBy_50 (by decide) rfl (fun c_3 => ?_) (fun c_3 => ?_)
          · skip
            refine g_iconst F dX8_wrongBy_72 (0) (by decide) ?_
            refine g_iadd F dX8_wrongBy_73 ?_
            refine g_istore_n F [(3, .int (J ((a) + (0)))), (5, .int (J (0))), (0, .ref (ad 8 (0))), (1, .int (J (h))), (2, .int (J (g))), (4, .int (J (j)))] dX8_wrongBy_74 rfl (by decide) rfl ?_
            refine g_iinc F [(4, .int (J (j + 1))), (3, .int (J ((a) + (0)))), (5, .int (J (0))), (0, .ref (ad 8 (0))), (1, .int (J (h))), (2, .int (J (g)))] 5 rfl dX8_wrongBy_75 (by decide) rfl ?_
            refine g_goto F 5 dX8_wrongBy_78 rfl ?_
            refine g_sub [3, 4, 5, 1, 0] (lv' := [(0, .ref (ad 8 (0))), (1, .int (J (h))), (2, .int (J (g))), (3, .int (J ((a) + (0)))), (4, .int (J (j + 1)))]) rfl ?_
            exact ih5 ((a) + (0)) (j + 1) (by omega) (by rw [sumZ_s _ (by omega), ← ha]; (repeat' split) <;> first | omega | contradiction) (by omega)
          · skip
            refine g_iload_n F dX8_wrongBy_53 rfl 3 rfl ?_
            refine g_if_eq 68 F dX8_wrongBy_54 (by omega) rfl (fun c_4 => ?_) (fun c_4 => ?_)
            · skip
              refine g_iconst F dX8_wrongBy_68 (1) (by decide) ?_
              refine g_goto F 73 dX8_wrongBy_69 rfl ?_
              refine g_iadd F dX8_wrongBy_73 ?_
              refine g_istore_n F [(3, .int (J ((a) + (1)))), (5, .int (J (0))), (0, .ref (ad 8 (0))), (1, .int (J (h))), (2, .int (J (g))), (4, .int (J (j)))] dX8_wrongBy_74 rfl (by decide) rfl ?_
              refine g_iinc F [(4, .int (J (j + 1))), (3, .int (J ((a) + (1)))), (5, .int (J (0))), (0, .ref (ad 8 (0))), (1, .int (J (h))), (2, .int (J (g)))] 5 rfl dX8_wrongBy_75 (by decide) rfl ?_
              refine g_goto F 5 dX8_wrongBy_78 rfl ?_
              refine g_sub [3, 4, 5, 1, 0] (lv' := [(0, .ref (ad 8 (0))), (1, .int (J (h))), (2, .int (J (g))), (3, .int (J ((a) + (1)))), (4, .int (J (j + 1)))]) rfl ?_
              exact ih5 ((a) + (1)) (j + 1) (by omega) (by rw [sumZ_s _ (by omega), ← ha]; (repeat' split) <;> first | omega | contradiction) (by omega)
            · skip
              refine g_aload_n F dX8_wrongBy_57 rfl 1 rfl ?_
              refine gg_Model_guilts F fk_X8_16 dX8_wrongBy_58 ?_
              refine g_iload F dX8_wrongBy_61 5 rfl ?_
              refine ga_42 F (by omega) dX8_wrongBy_63 ?_
              refine g_topi (b := z 2 (j) 0) ((hST.2.2.2.2.2 _ (by omega) (by omega)).2.1) ?_
              refine g_iconst F dX8_wrongBy_64 (1) (by decide) ?_
              refine g_icmp_ne 72 F dX8_wrongBy_65 (by omega) (by decide) rfl (fun c_5 => ?_) (fun c_5 => ?_)
              · skip
                refine g_iconst F dX8_wrongBy_72 (0) (by decide) ?_
                refine g_iadd F dX8_wrongBy_73 ?_
                refine g_istore_n F [(3, .int (J ((a) + (0)))), (5, .int (J (0))), (0, .ref (ad 8 (0))), (1, .int (J (h))), (2, .int (J (g))), (4, .int (J (j)))] dX8_wrongBy_74 rfl (by decide) rfl ?_
                refine g_iinc F [(4, .int (J (j + 1))), (3, .int (J ((a) + (0)))), (5, .int (J (0))), (0, .ref (ad 8 (0))), (1, .int (J (h))), (2, .int (J (g)))] 5 rfl dX8_wrongBy_75 (by decide) rfl ?_
                refine g_goto F 5 dX8_wrongBy_78 rfl ?_
                refine g_sub [3, 4, 5, 1, 0] (lv' := [(0, .ref (ad 8 (0))), (1, .int (J (h))), (2, .int (J (g))), (3, .int (J ((a) + (0)))), (4, .int (J (j + 1)))]) rfl ?_
                exact ih5 ((a) + (0)) (j + 1) (by omega) (by rw [sumZ_s _ (by omega), ← ha]; (repeat' split) <;> first | omega | contradiction) (by omega)
              · skip
                refine g_iconst F dX8_wrongBy_68 (1) (by decide) ?_
                refine g_goto F 73 dX8_wrongBy_69 rfl ?_
                refine g_iadd F dX8_wrongBy_73 ?_
                refine g_istore_n F [(3, .int (J ((a) + (1)))), (5, .int (J (0))), (0, .ref (ad 8 (0))), (1, .int (J (h))), (2, .int (J (g))), (4, .int (J (j)))] dX8_wrongBy_74 rfl (by decide) rfl ?_
                refine g_iinc F [(4, .int (J (j + 1))), (3, .int (J ((a) + (1)))), (5, .int (J (0))), (0, .ref (ad 8 (0))), (1, .int (J (h))), (2, .int (J (g)))] 5 rfl dX8_wrongBy_75 (by decide) rfl ?_
                refine g_goto F 5 dX8_wrongBy_78 rfl ?_
                refine g_sub [3, 4, 5, 1, 0] (lv' := [(0, .ref (ad 8 (0))), (1, .int (J (h))), (2, .int (J (g))), (3, .int (J ((a) + (1)))), (4, .int (J (j + 1)))]) rfl ?_
                exact ih5 ((a) + (1)) (j + 1) (by omega) (by rw [sumZ_s _ (by omega), ← ha]; (repeat' split) <;> first | omega | contradiction) (by omega)
        · skip
          refine g_aload_n F dX8_wrongBy_23 rfl 0 rfl ?_
          refine g_iload F dX8_wrongBy_24 4 rfl ?_
          refine g_aload_n F dX8_wrongBy_26 rfl 0 rfl ?_
          refine g_iconst F dX8_wrongBy_27 (0) (by decide) ?_
          refine g_iload F dX8_wrongBy_28 4 rfl ?_
          refine g_iload_n F dX8_wrongBy_30 rfl 1 rfl ?_
          refine g_callV 3 F (As := [.int (J (0)), .int (J (j)), .int (J (h))]) (st := [.int (J (j)), .ref (ad 8 (0))]) (c_X8_tellsAt l D ad x y z (0) (j) (h) (hST) (hN) (hB) (by omega) (by omega) (by omega)) (gR_8) rfl mk_X8_222 ki_X8_tellsAt kc_X8_tellsAt (by decide +kernel) rfl (by decide) dX8_wrongBy_31 rfl (Nat.le_of_ble_eq_true rfl) (pI_k ?_)
          refine g_callV 2 F (As := [.int (J (j)), .int (J (vU z (j) (h)))]) (st := []) (c_X8_isWrong l D ad x y z (j) (vU z (j) (h)) (hST) (hN) (by omega) (by omega)) (gR_8) rfl mk_X8_226 ki_X8_isWrong kc_X8_isWrong (by decide +kernel) rfl (by decide) dX8_wrongBy_34 rfl (Nat.le_of_ble_eq_true rfl) (pB_k ?_)
          refine g_ifb_eq 44 F dX8_wrongBy_37 rfl (fun c_6 => ?_) (fun c_6 => ?_)
          · skip
            refine g_iconst F dX8_wrongBy_44 (0) (by decide) ?_
            refine g_istore F [(5, .int (J (0))), (0, .ref (ad 8 (0))), (1, .int (J (h))), (2, .int (J (g))), (3, .int (J (a))), (4, .int (J (j)))] dX8_wrongBy_45 (by decide) rfl ?_
            refine g_iload_n F dX8_wrongBy_47 rfl 4 rfl ?_
            refine g_iload F dX8_wrongBy_48 0 rfl ?_
            refine g_if_eq 72 F dX8_wrongBy_50 (by decide) rfl (fun c_7 => ?_) (fun c_7 => ?_)
            · skip
              refine g_iconst F dX8_wrongBy_72 (0) (by decide) ?_
              refine g_iadd F dX8_wrongBy_73 ?_
              refine g_istore_n F [(3, .int (J ((a) + (0)))), (5, .int (J (0))), (0, .ref (ad 8 (0))), (1, .int (J (h))), (2, .int (J (g))), (4, .int (J (j)))] dX8_wrongBy_74 rfl (by decide) rfl ?_
              refine g_iinc F [(4, .int (J (j + 1))), (3, .int (J ((a) + (0)))), (5, .int (J (0))), (0, .ref (ad 8 (0))), (1, .int (J (h))), (2, .int (J (g)))] 5 rfl dX8_wrongBy_75 (by decide) rfl ?_
              refine g_goto F 5 dX8_wrongBy_78 rfl ?_
              refine g_sub [3, 4, 5, 1, 0] (lv' := [(0, .ref (ad 8 (0))), (1, .int (J (h))), (2, .int (J (g))), (3, .int (J ((a) + (0)))), (4, .int (J (j + 1)))]) rfl ?_
              exact ih5 ((a) + (0)) (j + 1) (by omega) (by rw [sumZ_s _ (by omega), ← ha]; (repeat' split) <;> first | omega | contradiction) (by omega)
            · skip
              refine g_iload_n F dX8_wrongBy_53 rfl 3 rfl ?_
              refine g_if_eq 68 F dX8_wrongBy_54 (by omega) rfl (fun c_8 => ?_) (fun c_8 => ?_)
              · skip
                refine g_iconst F dX8_wrongBy_68 (1) (by decide) ?_
                refine g_goto F 73 dX8_wrongBy_69 rfl ?_
                refine g_iadd F dX8_wrongBy_73 ?_
                refine g_istore_n F [(3, .int (J ((a) + (1)))), (5, .int (J (0))), (0, .ref (ad 8 (0))), (1, .int (J (h))), (2, .int (J (g))), (4, .int (J (j)))] dX8_wrongBy_74 rfl (by decide) rfl ?_
                refine g_iinc F [(4, .int (J (j + 1))), (3, .int (J ((a) + (1)))), (5, .int (J (0))), (0, .ref (ad 8 (0))), (1, .int (J (h))), (2, .int (J (g)))] 5 rfl dX8_wrongBy_75 (by decide) rfl ?_
                refine g_goto F 5 dX8_wrongBy_78 rfl ?_
                refine g_sub [3, 4, 5, 1, 0] (lv' := [(0, .ref (ad 8 (0))), (1, .int (J (h))), (2, .int (J (g))), (3, .int (J ((a) + (1)))), (4, .int (J (j + 1)))]) rfl ?_
                exact ih5 ((a) + (1)) (j + 1) (by omega) (by rw [sumZ_s _ (by omega), ← ha]; (repeat' split) <;> first | omega | contradiction) (by omega)
              · skip
                refine g_aload_n F dX8_wrongBy_57 rfl 1 rfl ?_
                refine gg_Model_guilts F fk_X8_16 dX8_wrongBy_58 ?_
                refine g_iload F dX8_wrongBy_61 5 rfl ?_
                refine ga_42 F (by omega) dX8_wrongBy_63 ?_
                refine g_topi (b := z 2 (j) 0) ((hST.2.2.2.2.2 _ (by omega) (by omega)).2.1) ?_
                refine g_iconst F dX8_wrongBy_64 (1) (by decide) ?_
                refine g_icmp_ne 72 F dX8_wrongBy_65 (by omega) (by decide) rfl (fun c_9 => ?_) (fun c_9 => ?_)
                · skip
                  refine g_iconst F dX8_wrongBy_72 (0) (by decide) ?_
                  refine g_iadd F dX8_wrongBy_73 ?_
                  refine g_istore_n F [(3, .int (J ((a) + (0)))), (5, .int (J (0))), (0, .ref (ad 8 (0))), (1, .int (J (h))), (2, .int (J (g))), (4, .int (J (j)))] dX8_wrongBy_74 rfl (by decide) rfl ?_
                  refine g_iinc F [(4, .int (J (j + 1))), (3, .int (J ((a) + (0)))), (5, .int (J (0))), (0, .ref (ad 8 (0))), (1, .int (J (h))), (2, .int (J (g)))] 5 rfl dX8_wrongBy_75 (by decide) rfl ?_
                  refine g_goto F 5 dX8_wrongBy_78 rfl ?_
                  refine g_sub [3, 4, 5, 1, 0] (lv' := [(0, .ref (ad 8 (0))), (1, .int (J (h))), (2, .int (J (g))), (3, .int (J ((a) + (0)))), (4, .int (J (j + 1)))]) rfl ?_
                  exact ih5 ((a) + (0)) (j + 1) (by omega) (by rw [sumZ_s _ (by omega), ← ha]; (repeat' split) <;> first | omega | contradiction) (by omega)
                · skip
                  refine g_iconst F dX8_wrongBy_68 (1) (by decide) ?_
                  refine g_goto F 73 dX8_wrongBy_69 rfl ?_
                  refine g_iadd F dX8_wrongBy_73 ?_
                  refine g_istore_n F [(3, .int (J ((a) + (1)))), (5, .int (J (0))), (0, .ref (ad 8 (0))), (1, .int (J (h))), (2, .int (J (g))), (4, .int (J (j)))] dX8_wrongBy_74 rfl (by decide) rfl ?_
                  refine g_iinc F [(4, .int (J (j + 1))), (3, .int (J ((a) + (1)))), (5, .int (J (0))), (0, .ref (ad 8 (0))), (1, .int (J (h))), (2, .int (J (g)))] 5 rfl dX8_wrongBy_75 (by decide) rfl ?_
                  refine g_goto F 5 dX8_wrongBy_78 rfl ?_
                  refine g_sub [3, 4, 5, 1, 0] (lv' := [(0, .ref (ad 8 (0))), (1, .int (J (h))), (2, .int (J (g))), (3, .int (J ((a) + (1)))), (4, .int (J (j + 1)))]) rfl ?_
                  exact ih5 ((a) + (1)) (j + 1) (by omega) (by rw [sumZ_s _ (by omega), ← ha]; (repeat' split) <;> first | omega | contradiction) (by omega)
          · skip
            refine g_iconst F dX8_wrongBy_40 (1) (by decide) ?_
            refine g_goto F 45 dX8_wrongBy_41 rfl ?_
            refine g_istore F [(5, .int (J (1))), (0, .ref (ad 8 (0))), (1, .int (J (h))), (2, .int (J (g))), (3, .int (J (a))), (4, .int (J (j)))] dX8_wrongBy_45 (by decide) rfl ?_
            refine g_iload_n F dX8_wrongBy_47 rfl 4 rfl ?_
            refine g_iload F dX8_wrongBy_48 0 rfl ?_
            refine g_if_eq 72 F dX8_wrongBy_50 (by decide) rfl (fun c_10 => ?_) (fun c_10 => ?_)
            · skip
              refine g_iconst F dX8_wrongBy_72 (0) (by decide) ?_
              refine g_iadd F dX8_wrongBy_73 ?_
              refine g_istore_n F [(3, .int (J ((a) + (0)))), (5, .int (J (1))), (0, .ref (ad 8 (0))), (1, .int (J (h))), (2, .int (J (g))), (4, .int (J (j)))] dX8_wrongBy_74 rfl (by decide) rfl ?_
              refine g_iinc F [(4, .int (J (j + 1))), (3, .int (J ((a) + (0)))), (5, .int (J (1))), (0, .ref (ad 8 (0))), (1, .int (J (h))), (2, .int (J (g)))] 5 rfl dX8_wrongBy_75 (by decide) rfl ?_
              refine g_goto F 5 dX8_wrongBy_78 rfl ?_
              refine g_sub [3, 4, 5, 1, 0] (lv' := [(0, .ref (ad 8 (0))), (1, .int (J (h))), (2, .int (J (g))), (3, .int (J ((a) + (0)))), (4, .int (J (j + 1)))]) rfl ?_
              exact ih5 ((a) + (0)) (j + 1) (by omega) (by rw [sumZ_s _ (by omega), ← ha]; (repeat' split) <;> first | omega | contradiction) (by omega)
            · skip
              refine g_iload_n F dX8_wrongBy_53 rfl 3 rfl ?_
              refine g_if_eq 68 F dX8_wrongBy_54 (by omega) rfl (fun c_11 => ?_) (fun c_11 => ?_)
              · skip
                refine g_iconst F dX8_wrongBy_68 (1) (by decide) ?_
                refine g_goto F 73 dX8_wrongBy_69 rfl ?_
                refine g_iadd F dX8_wrongBy_73 ?_
                refine g_istore_n F [(3, .int (J ((a) + (1)))), (5, .int (J (1))), (0, .ref (ad 8 (0))), (1, .int (J (h))), (2, .int (J (g))), (4, .int (J (j)))] dX8_wrongBy_74 rfl (by decide) rfl ?_
                refine g_iinc F [(4, .int (J (j + 1))), (3, .int (J ((a) + (1)))), (5, .int (J (1))), (0, .ref (ad 8 (0))), (1, .int (J (h))), (2, .int (J (g)))] 5 rfl dX8_wrongBy_75 (by decide) rfl ?_
                refine g_goto F 5 dX8_wrongBy_78 rfl ?_
                refine g_sub [3, 4, 5, 1, 0] (lv' := [(0, .ref (ad 8 (0))), (1, .int (J (h))), (2, .int (J (g))), (3, .int (J ((a) + (1)))), (4, .int (J (j + 1)))]) rfl ?_
                exact ih5 ((a) + (1)) (j + 1) (by omega) (by rw [sumZ_s _ (by omega), ← ha]; (repeat' split) <;> first | omega | contradiction) (by omega)
              · skip
                refine g_aload_n F dX8_wrongBy_57 rfl 1 rfl ?_
                refine gg_Model_guilts F fk_X8_16 dX8_wrongBy_58 ?_
                refine g_iload F dX8_wrongBy_61 5 rfl ?_
                refine ga_42 F (by omega) dX8_wrongBy_63 ?_
                refine g_topi (b := z 2 (j) 0) ((hST.2.2.2.2.2 _ (by omega) (by omega)).2.1) ?_
                refine g_iconst F dX8_wrongBy_64 (1) (by decide) ?_
                refine g_icmp_ne 72 F dX8_wrongBy_65 (by omega) (by decide) rfl (fun c_12 => ?_) (fun c_12 => ?_)
                · skip
                  refine g_iconst F dX8_wrongBy_72 (0) (by decide) ?_
                  refine g_iadd F dX8_wrongBy_73 ?_
                  refine g_istore_n F [(3, .int (J ((a) + (0)))), (5, .int (J (1))), (0, .ref (ad 8 (0))), (1, .int (J (h))), (2, .int (J (g))), (4, .int (J (j)))] dX8_wrongBy_74 rfl (by decide) rfl ?_
                  refine g_iinc F [(4, .int (J (j + 1))), (3, .int (J ((a) + (0)))), (5, .int (J (1))), (0, .ref (ad 8 (0))), (1, .int (J (h))), (2, .int (J (g)))] 5 rfl dX8_wrongBy_75 (by decide) rfl ?_
                  refine g_goto F 5 dX8_wrongBy_78 rfl ?_
                  refine g_sub [3, 4, 5, 1, 0] (lv' := [(0, .ref (ad 8 (0))), (1, .int (J (h))), (2, .int (J (g))), (3, .int (J ((a) + (0)))), (4, .int (J (j + 1)))]) rfl ?_
                  exact ih5 ((a) + (0)) (j + 1) (by omega) (by rw [sumZ_s _ (by omega), ← ha]; (repeat' split) <;> first | omega | contradiction) (by omega)
                · skip
                  refine g_iconst F dX8_wrongBy_68 (1) (by decide) ?_
                  refine g_goto F 73 dX8_wrongBy_69 rfl ?_
                  refine g_iadd F dX8_wrongBy_73 ?_
                  refine g_istore_n F [(3, .int (J ((a) + (1)))), (5, .int (J (1))), (0, .ref (ad 8 (0))), (1, .int (J (h))), (2, .int (J (g))), (4, .int (J (j)))] dX8_wrongBy_74 rfl (by decide) rfl ?_
                  refine g_iinc F [(4, .int (J (j + 1))), (3, .int (J ((a) + (1)))), (5, .int (J (1))), (0, .ref (ad 8 (0))), (1, .int (J (h))), (2, .int (J (g)))] 5 rfl dX8_wrongBy_75 (by decide) rfl ?_
                  refine g_goto F 5 dX8_wrongBy_78 rfl ?_
                  refine g_sub [3, 4, 5, 1, 0] (lv' := [(0, .ref (ad 8 (0))), (1, .int (J (h))), (2, .int (J (g))), (3, .int (J ((a) + (1)))), (4, .int (J (j + 1)))]) rfl ?_
                  exact ih5 ((a) + (1)) (j + 1) (by omega) (by rw [sumZ_s _ (by omega), ← ha]; (repeat' split) <;> first | omega | contradiction) (by omega)
  refine g_sub [2, 3, 4, 1, 0] (lv' := [(0, .ref (ad 8 (0))), (1, .int (J (h))), (2, .int (J (g))), (3, .int (J (0))), (4, .int (J (0)))]) rfl ?_
  exact L5 _ (0) (0) (by omega) (rfl) (Nat.lt_succ_self _)

set_option maxRecDepth 20000 in
theorem c_X8_wrong (l : Launch) (D : gD) (ad : gA) (x : gX) (y : gY) (z : gX) (h : Int) (hh : i32 h) (hRel : Rel z y) : gC l D ad 7 yX8_wrong cX8_wrong 2 (some .int) [.ref (ad 8 (0)), .int (J (h))] x y (pH (.int (J ((sWrong z h).1))) (x) (fun w9 => Rel (sWrong z h).2 w9)) := by
  refine g_met RX8 rfl (by decide +kernel) [(0, .ref (ad 8 (0))), (1, .int (J (h)))] rfl (Nat.le_of_ble_eq_true rfl) (fun Θ F hR => ?_)
  have hN := hRel.1.1
  have hRW := hRel.1.2.1
  have hDD := hRel.1.2.2.1
  have hST := hRel.2.1
  have hB := Rel_SB hRel
  have h10 := hN.2.1
  have h15 := hN.2.2.1
  refine g_iload_n F dX8_wrong_0 rfl 1 rfl ?_
  refine g_i2l F dX8_wrong_1 (by omega) ?_
  refine g_lconst F dX8_wrong_2 0 (by decide) ?_
  refine g_ldc2 F ck_X8_237 dX8_wrong_3 (30) (by decide) ?_
  refine g_callS 3 F (As := [.long (Lg (h)), .long (Lg (0)), .long (Lg (30))]) (st := []) (c_X8_in l D ad x y (h) (0) (30) (by omega) (by omega) (by omega)) rfl mk_X8_74 ki_X8_in kc_X8_in (by decide +kernel) rfl (by decide) dX8_wrong_6 rfl (Nat.le_of_ble_eq_true rfl) (pB_k ?_)
  refine g_ifb_ne 14 F dX8_wrong_9 rfl (fun c_1 => ?_) (fun c_1 => ?_)
  · skip
    refine g_aload_n F dX8_wrong_14 rfl 0 rfl ?_
    refine gg_Model_men F fk_X8_157 dX8_wrong_15 ?_
    refine g_topi (b := z 10 0 0) (hST.2.2.2.2.1) ?_
    refine g_if_ne 24 F dX8_wrong_18 (by omega) rfl (fun c_2 => ?_) (fun c_2 => ?_)
    · skip
      refine g_aload_n F dX8_wrong_24 rfl 0 rfl ?_
      refine g_aload_n F dX8_wrong_25 rfl 0 rfl ?_
      refine g_iload_n F dX8_wrong_26 rfl 1 rfl ?_
      refine g_iconst F dX8_wrong_27 (1) (by decide) ?_
      refine g_callV 2 F (As := [.int (J (h)), .int (J (1))]) (st := [.ref (ad 8 (0))]) (c_X8_wrongBy l D ad x y z (h) (1) (hST) (hN) (hB) (by omega) (by omega)) (gR_8) rfl mk_X8_239 ki_X8_wrongBy kc_X8_wrongBy (by decide +kernel) rfl (by decide) dX8_wrong_28 rfl (Nat.le_of_ble_eq_true rfl) (pI_k ?_)
      refine g_topi (b := gwU z h) (wb_1 z h) ?_
      refine gp_Model_asked F fk_X8_69 dX8_wrong_31 ?_
      refine g_aload_n F dX8_wrong_34 rfl 0 rfl ?_
      refine g_iload_n F dX8_wrong_35 rfl 1 rfl ?_
      refine g_iconst F dX8_wrong_36 (0) (by decide) ?_
      refine g_callV 2 F (As := [.int (J (h)), .int (J (0))]) (st := []) (c_X8_wrongBy l D ad x (yU y 6 (0) (gwU z h)) z (h) (0) (hST) (hN) (hB) (by omega) (by omega)) (gR_8) rfl mk_X8_239 ki_X8_wrongBy kc_X8_wrongBy (by decide +kernel) rfl (by decide) dX8_wrong_37 rfl (Nat.le_of_ble_eq_true rfl) (pI_k ?_)
      refine g_topi (b := awU z h) (wb_0 z h) ?_
      exact g_ireturn F hR dX8_wrong_40 (pH_z (by unfold sWrong; first | (rw [hRf_a (by omega)]; rfl) | (rw [hRf_b (by omega) (by omega)]; rfl) | (rw [hRf_c (by omega) (by omega)]; rfl)) (by unfold sWrong; first | (rw [hRf_a (by omega)]; exact hRel) | (rw [hRf_b (by omega) (by omega)]; exact hRel) | (rw [hRf_c (by omega) (by omega)]; exact Rel_tell hRel _)) rfl)
    · skip
      refine g_bipush F dX8_wrong_21 (-4) (by decide) ?_
      exact g_ireturn F hR dX8_wrong_23 (pH_z (by unfold sWrong; first | (rw [hRf_a (by omega)]; rfl) | (rw [hRf_b (by omega) (by omega)]; rfl) | (rw [hRf_c (by omega) (by omega)]; rfl)) (by unfold sWrong; first | (rw [hRf_a (by omega)]; exact hRel) | (rw [hRf_b (by omega) (by omega)]; exact hRel) | (rw [hRf_c (by omega) (by omega)]; exact Rel_tell hRel _)) rfl)
  · skip
    refine g_iconst F dX8_wrong_12 (-1) (by decide) ?_
    exact g_ireturn F hR dX8_wrong_13 (pH_z (by unfold sWrong; first | (rw [hRf_a (by omega)]; rfl) | (rw [hRf_b (by omega) (by omega)]; rfl) | (rw [hRf_c (by omega) (by omega)]; rfl)) (by unfold sWrong; first | (rw [hRf_a (by omega)]; exact hRel) | (rw [hRf_b (by omega) (by omega)]; exact hRel) | (rw [hRf_c (by omega) (by omega)]; exact Rel_tell hRel _)) rfl)

set_option maxRecDepth 20000 in
theorem c_X8_best (l : Launch) (D : gD) (ad : gA) (x : gX) (y : gY) (z : gX) (hRel : Rel z y) : gC l D ad 7 yX8_best cX8_best 3 (some .int) [.ref (ad 8 (0))] x y (pH (.int (J ((sBest z ).1))) (x) (fun w9 => Rel (sBest z ).2 w9)) := by
  refine g_met RX8 rfl (by decide +kernel) [(0, .ref (ad 8 (0)))] rfl (Nat.le_of_ble_eq_true rfl) (fun Θ F hR => ?_)
  have hN := hRel.1.1
  have hRW := hRel.1.2.1
  have hDD := hRel.1.2.2.1
  have hST := hRel.2.1
  have hB := Rel_SB hRel
  have h10 := hN.2.1
  have h15 := hN.2.2.1
  refine g_aload_n F dX8_best_0 rfl 0 rfl ?_
  refine gg_Model_men F fk_X8_157 dX8_best_1 ?_
  refine g_topi (b := z 10 0 0) (hST.2.2.2.2.1) ?_
  refine g_if_ne 10 F dX8_best_4 (by omega) rfl (fun c_1 => ?_) (fun c_1 => ?_)
  · skip
    refine g_iconst F dX8_best_10 (0) (by decide) ?_
    refine g_istore_n F [(1, .int (J (0))), (0, .ref (ad 8 (0)))] dX8_best_11 rfl (by decide) rfl ?_
    refine g_iconst F dX8_best_12 (1) (by decide) ?_
    refine g_istore_n F [(2, .int (J (1))), (1, .int (J (0))), (0, .ref (ad 8 (0)))] dX8_best_13 rfl (by decide) rfl ?_
    have L14 : ∀ (N : Nat) (b : Int) (j : Int), 1 ≤ j ∧ j ≤ 31 → 0 ≤ b ∧ b ≤ 30 → bsN (fun h => awU z h) (j - 1).toNat = (b, awU z b) → (31 - j).toNat < N → gW Θ l D ad 3 14 [(0, .ref (ad 8 (0))), (1, .int (J (b))), (2, .int (J (j)))] [] x y := by
      intro N
      induction N with
      | zero => intro b j hj hr ha hFu; omega
      | succ N ih14 =>
        intro b j hj hr ha hFu
        refine g_iload_n F dX8_best_14 rfl 2 rfl ?_
        refine g_bipush F dX8_best_15 (31) (by decide) ?_
        refine g_icmp_ge 47 F dX8_best_17 (by omega) (by decide) rfl (fun c_2 => ?_) (fun c_2 => ?_)
        · skip
          refine g_aload_n F dX8_best_47 rfl 0 rfl ?_
          refine g_aload_n F dX8_best_48 rfl 0 rfl ?_
          refine g_iload_n F dX8_best_49 rfl 1 rfl ?_
          refine g_iconst F dX8_best_50 (0) (by decide) ?_
          refine g_callV 2 F (As := [.int (J (b)), .int (J (0))]) (st := [.ref (ad 8 (0))]) (c_X8_wrongBy l D ad x y z (b) (0) (hST) (hN) (hB) (by omega) (by omega)) (gR_8) rfl mk_X8_239 ki_X8_wrongBy kc_X8_wrongBy (by decide +kernel) rfl (by decide) dX8_best_51 rfl (Nat.le_of_ble_eq_true rfl) (pI_k ?_)
          refine g_topi (b := awU z b) (wb_0 z b) ?_
          refine gp_Model_asked F fk_X8_69 dX8_best_54 ?_
          refine g_iload_n F dX8_best_57 rfl 1 rfl ?_
          exact g_ireturn F hR dX8_best_58 (pH_z (by unfold sBest; first | (rw [if_pos (by omega)]; done) | (rw [show j = 31 by omega] at ha; rw [if_neg (by omega), show bsN (fun h => awU z h) 30 = (b, awU z b) from ha]; done)) (by unfold sBest; first | (rw [if_pos (by omega)]; exact hRel) | (rw [show j = 31 by omega] at ha; rw [if_neg (by omega), show bsN (fun h => awU z h) 30 = (b, awU z b) from ha]; exact Rel_tell hRel _)) rfl)
        · skip
          have r1 := awU_r hN j
          have r2 := awU_r hN b
          refine g_aload_n F dX8_best_20 rfl 0 rfl ?_
          refine g_iload_n F dX8_best_21 rfl 2 rfl ?_
          refine g_iconst F dX8_best_22 (0) (by decide) ?_
          refine g_callV 2 F (As := [.int (J (j)), .int (J (0))]) (st := []) (c_X8_wrongBy l D ad x y z (j) (0) (hST) (hN) (hB) (by omega) (by omega)) (gR_8) rfl mk_X8_239 ki_X8_wrongBy kc_X8_wrongBy (by decide +kernel) rfl (by decide) dX8_best_23 rfl (Nat.le_of_ble_eq_true rfl) (pI_k ?_)
          refine g_topi (b := awU z j) (wb_0 z j) ?_
          refine g_aload_n F dX8_best_26 rfl 0 rfl ?_
          refine g_iload_n F dX8_best_27 rfl 1 rfl ?_
          refine g_iconst F dX8_best_28 (0) (by decide) ?_
          refine g_callV 2 F (As := [.int (J (b)), .int (J (0))]) (st := [.int (J (awU z j))]) (c_X8_wrongBy l D ad x y z (b) (0) (hST) (hN) (hB) (by omega) (by omega)) (gR_8) rfl mk_X8_239 ki_X8_wrongBy kc_X8_wrongBy (by decide +kernel) rfl (by decide) dX8_best_29 rfl (Nat.le_of_ble_eq_true rfl) (pI_k ?_)
          refine g_topi (b := awU z b) (wb_0 z b) ?_
          refine g_icmp_ge 39 F dX8_best_32 (by omega) (by omega) rfl (fun c_3 => ?_) (fun c_3 => ?_)
          · skip
            refine g_iload_n F dX8_best_39 rfl 1 rfl ?_
            refine g_istore_n F [(1, .int (J (b))), (0, .ref (ad 8 (0))), (2, .int (J (j)))] dX8_best_40 rfl (by decide) rfl ?_
            refine g_iinc F [(2, .int (J (j + 1))), (1, .int (J (b))), (0, .ref (ad 8 (0)))] 2 rfl dX8_best_41 (by decide) rfl ?_
            refine g_goto F 14 dX8_best_44 rfl ?_
            refine g_sub [2, 1, 0] (lv' := [(0, .ref (ad 8 (0))), (1, .int (J (b))), (2, .int (J (j + 1)))]) rfl ?_
            exact ih14 (b) (j + 1) (by omega) (by omega) (by rw [bsN_s _ (by omega), ha]; first | (rw [if_pos (by show awU z j < awU z b; omega)]; done) | (rw [if_neg (by show ¬ awU z j < awU z b; omega)]; done)) (by omega)
          · skip
            refine g_iload_n F dX8_best_35 rfl 2 rfl ?_
            refine g_goto F 40 dX8_best_36 rfl ?_
            refine g_istore_n F [(1, .int (J (j))), (0, .ref (ad 8 (0))), (2, .int (J (j)))] dX8_best_40 rfl (by decide) rfl ?_
            refine g_iinc F [(2, .int (J (j + 1))), (1, .int (J (j))), (0, .ref (ad 8 (0)))] 2 rfl dX8_best_41 (by decide) rfl ?_
            refine g_goto F 14 dX8_best_44 rfl ?_
            refine g_sub [2, 1, 0] (lv' := [(0, .ref (ad 8 (0))), (1, .int (J (j))), (2, .int (J (j + 1)))]) rfl ?_
            exact ih14 (j) (j + 1) (by omega) (by omega) (by rw [bsN_s _ (by omega), ha]; first | (rw [if_pos (by show awU z j < awU z b; omega)]; done) | (rw [if_neg (by show ¬ awU z j < awU z b; omega)]; done)) (by omega)
    refine g_sub [2, 1, 0] (lv' := [(0, .ref (ad 8 (0))), (1, .int (J (0))), (2, .int (J (1)))]) rfl ?_
    exact L14 _ (0) (1) (by omega) (by omega) (rfl) (Nat.lt_succ_self _)
  · skip
    refine g_bipush F dX8_best_7 (-4) (by decide) ?_
    exact g_ireturn F hR dX8_best_9 (pH_z (by unfold sBest; first | (rw [if_pos (by omega)]; done) | (rw [show j = 31 by omega] at ha; rw [if_neg (by omega), show bsN (fun h => awU z h) 30 = (b, awU z b) from ha]; done)) (by unfold sBest; first | (rw [if_pos (by omega)]; exact hRel) | (rw [show j = 31 by omega] at ha; rw [if_neg (by omega), show bsN (fun h => awU z h) 30 = (b, awU z b) from ha]; exact Rel_tell hRel _)) rfl)

set_option maxRecDepth 20000 in
theorem c_X8_heats (l : Launch) (D : gD) (ad : gA) (x : gX) (y : gY) (z : gX) (i v : Int) (hi : i32 i) (hv : i32 v) (hRel : Rel z y) : gC l D ad 6 yX8_heats cX8_heats 5 (some .int) [.ref (ad 8 (0)), .int (J (i)), .int (J (v))] x y (pH (.int (J ((sHeats z i v).1))) (x) (fun w9 => Rel (sHeats z i v).2 w9)) := by
  refine g_met RX8 rfl (by decide +kernel) [(0, .ref (ad 8 (0))), (1, .int (J (i))), (2, .int (J (v)))] rfl (Nat.le_of_ble_eq_true rfl) (fun Θ F hR => ?_)
  have hN := hRel.1.1
  have hRW := hRel.1.2.1
  have hDD := hRel.1.2.2.1
  have hST := hRel.2.1
  have hB := Rel_SB hRel
  have h10 := hN.2.1
  have h15 := hN.2.2.1
  refine g_aload_n F dX8_heats_0 rfl 0 rfl ?_
  refine g_iload_n F dX8_heats_1 rfl 1 rfl ?_
  refine g_callV 1 F (As := [.int (J (i))]) (st := []) (c_X8_isMan l D ad x y z (i) (hST) (hN) (by omega)) (gR_8) rfl mk_X8_191 ki_X8_isMan kc_X8_isMan (by decide +kernel) rfl (by decide) dX8_heats_2 rfl (Nat.le_of_ble_eq_true rfl) (pB_k ?_)
  refine g_ifb_eq 20 F dX8_heats_5 rfl (fun c_1 => ?_) (fun c_1 => ?_)
  · skip
    refine g_iconst F dX8_heats_20 (-1) (by decide) ?_
    exact g_ireturn F hR dX8_heats_21 (pH_z (by unfold sHeats; first | (rw [if_pos (by omega)]; done) | (rw [if_neg (by omega)]; exact ha.trans (by rw [show j = 31 by omega]))) (by unfold sHeats; first | (rw [if_pos (by omega)]; exact hRel) | (rw [if_neg (by omega)]; exact hRel)) rfl)
  · skip
    refine g_iload_n F dX8_heats_8 rfl 2 rfl ?_
    refine g_i2l F dX8_heats_9 (by omega) ?_
    refine g_lconst F dX8_heats_10 0 (by decide) ?_
    refine g_ldc2 F ck_X8_232 dX8_heats_11 (2) (by decide) ?_
    refine g_callS 3 F (As := [.long (Lg (v)), .long (Lg (0)), .long (Lg (2))]) (st := []) (c_X8_in l D ad x y (v) (0) (2) (by omega) (by omega) (by omega)) rfl mk_X8_74 ki_X8_in kc_X8_in (by decide +kernel) rfl (by decide) dX8_heats_14 rfl (Nat.le_of_ble_eq_true rfl) (pB_k ?_)
    refine g_ifb_ne 22 F dX8_heats_17 rfl (fun c_2 => ?_) (fun c_2 => ?_)
    · skip
      have hm := hN.2.2.2 i (by omega) (by omega)
      refine g_iconst F dX8_heats_22 (0) (by decide) ?_
      refine g_istore_n F [(3, .int (J (0))), (0, .ref (ad 8 (0))), (1, .int (J (i))), (2, .int (J (v)))] dX8_heats_23 rfl (by decide) rfl ?_
      refine g_iconst F dX8_heats_24 (0) (by decide) ?_
      refine g_istore F [(4, .int (J (0))), (3, .int (J (0))), (0, .ref (ad 8 (0))), (1, .int (J (i))), (2, .int (J (v)))] dX8_heats_25 (by decide) rfl ?_
      have L27 : ∀ (N : Nat) (a : Int) (j : Int), 0 ≤ j ∧ j ≤ 31 → a = bitsZ (fun h => vU z i h = v) j → (31 - j).toNat < N → gW Θ l D ad 5 27 [(0, .ref (ad 8 (0))), (1, .int (J (i))), (2, .int (J (v))), (3, .int (J (a))), (4, .int (J (j)))] [] x y := by
        intro N
        induction N with
        | zero => intro a j hj ha hFu; omega
        | succ N ih27 =>
          intro a j hj ha hFu
          refine g_iload F dX8_heats_27 4 rfl ?_
          refine g_bipush F dX8_heats_29 (31) (by decide) ?_
          refine g_icmp_ge 63 F dX8_heats_31 (by omega) (by decide) rfl (fun c_3 => ?_) (fun c_3 => ?_)
          · skip
            refine g_iload_n F dX8_heats_63 rfl 3 rfl ?_
            exact g_ireturn F hR dX8_heats_64 (pH_z (by unfold sHeats; first | (rw [if_pos (by omega)]; done) | (rw [if_neg (by omega)]; exact ha.trans (by rw [show j = 31 by omega]))) (by unfold sHeats; first | (rw [if_pos (by omega)]; exact hRel) | (rw [if_neg (by omega)]; exact hRel)) rfl)
          · skip
            have hv2 := vU_r z i j
            have ra := bitZ_r (P := fun h => vU z i h = v) (n := j) (by omega)
            refine g_iload_n F dX8_heats_34 rfl 3 rfl ?_
            refine g_aload_n F dX8_heats_35 rfl 0 rfl ?_
            refine g_iconst F dX8_heats_36 (0) (by decide) ?_
            refine g_iload_n F dX8_heats_37 rfl 1 rfl ?_
            refine g_iload F dX8_heats_38 4 rfl ?_
            refine g_callV 3 F (As := [.int (J (0)), .int (J (i)), .int (J (j))]) (st := [.int (J (a))]) (c_X8_tellsAt l D ad x y z (0) (i) (j) (hST) (hN) (hB) (by omega) (by omega) (by omega)) (gR_8) rfl mk_X8_222 ki_X8_tellsAt kc_X8_tellsAt (by decide +kernel) rfl (by decide) dX8_heats_40 rfl (Nat.le_of_ble_eq_true rfl) (pI_k ?_)
            refine g_iload_n F dX8_heats_43 rfl 2 rfl ?_
            refine g_icmp_ne 54 F dX8_heats_44 (by omega) (by omega) rfl (fun c_4 => ?_) (fun c_4 => ?_)
            · skip
              refine g_iconst F dX8_heats_54 (0) (by decide) ?_
              refine g_ior F dX8_heats_55 (a) (J_or0 _) ?_
              refine g_istore_n F [(3, .int (J (a))), (0, .ref (ad 8 (0))), (1, .int (J (i))), (2, .int (J (v))), (4, .int (J (j)))] dX8_heats_56 rfl (by decide) rfl ?_
              refine g_iinc F [(4, .int (J (j + 1))), (3, .int (J (a))), (0, .ref (ad 8 (0))), (1, .int (J (i))), (2, .int (J (v)))] 4 rfl dX8_heats_57 (by decide) rfl ?_
              refine g_goto F 27 dX8_heats_60 rfl ?_
              refine g_sub [2, 3, 4, 1, 0] (lv' := [(0, .ref (ad 8 (0))), (1, .int (J (i))), (2, .int (J (v))), (3, .int (J (a))), (4, .int (J (j + 1)))]) rfl ?_
              exact ih27 (a) (j + 1) (by omega) (by rw [ha]; first | exact (bitsZ_y (P := fun h => vU z i h = v) (by omega) (by assumption)).symm | exact (bitsZ_n (P := fun h => vU z i h = v) (by omega) (by assumption)).symm) (by omega)
            · skip
              refine g_iconst F dX8_heats_47 (1) (by decide) ?_
              refine g_iload F dX8_heats_48 4 rfl ?_
              refine g_ishl F dX8_heats_50 (p2 (j)) (J_shl (by omega)) ?_
              refine g_goto F 55 dX8_heats_51 rfl ?_
              refine g_ior F dX8_heats_55 (a + p2 j) (J_or (by rw [ha]; exact ra.1) (by rw [ha]; exact ra.2) (by omega)) ?_
              refine g_istore_n F [(3, .int (J (a + p2 j))), (0, .ref (ad 8 (0))), (1, .int (J (i))), (2, .int (J (v))), (4, .int (J (j)))] dX8_heats_56 rfl (by decide) rfl ?_
              refine g_iinc F [(4, .int (J (j + 1))), (3, .int (J (a + p2 j))), (0, .ref (ad 8 (0))), (1, .int (J (i))), (2, .int (J (v)))] 4 rfl dX8_heats_57 (by decide) rfl ?_
              refine g_goto F 27 dX8_heats_60 rfl ?_
              refine g_sub [2, 3, 4, 1, 0] (lv' := [(0, .ref (ad 8 (0))), (1, .int (J (i))), (2, .int (J (v))), (3, .int (J (a + p2 j))), (4, .int (J (j + 1)))]) rfl ?_
              exact ih27 (a + p2 j) (j + 1) (by omega) (by rw [ha]; first | exact (bitsZ_y (P := fun h => vU z i h = v) (by omega) (by assumption)).symm | exact (bitsZ_n (P := fun h => vU z i h = v) (by omega) (by assumption)).symm) (by omega)
      refine g_sub [2, 3, 4, 1, 0] (lv' := [(0, .ref (ad 8 (0))), (1, .int (J (i))), (2, .int (J (v))), (3, .int (J (0))), (4, .int (J (0)))]) rfl ?_
      exact L27 _ (0) (0) (by omega) (rfl) (Nat.lt_succ_self _)
    · skip
      refine g_iconst F dX8_heats_20 (-1) (by decide) ?_
      exact g_ireturn F hR dX8_heats_21 (pH_z (by unfold sHeats; first | (rw [if_pos (by omega)]; done) | (rw [if_neg (by omega)]; exact ha.trans (by rw [show j = 31 by omega]))) (by unfold sHeats; first | (rw [if_pos (by omega)]; exact hRel) | (rw [if_neg (by omega)]; exact hRel)) rfl)

set_option maxRecDepth 20000 in
theorem c_X8_tellParts (l : Launch) (D : gD) (ad : gA) (x : gX) (y : gY) (a b : Int) (ha : 0 ≤ a ∧ a ≤ 4000000) (hb : 1 ≤ b ∧ b ≤ 4000000) : gC l D ad 0 yX8_tellParts cX8_tellParts 11 (some .int) [.ref (ad 8 (0)), .long (Lg (a)), .long (Lg (b))] x y (pI (1) (x) (tpY y a b)) := by
  refine g_met RX8 rfl (by decide +kernel) [(0, .ref (ad 8 (0))), (1, .long (Lg (a))), (3, .long (Lg (b)))] rfl (Nat.le_of_ble_eq_true rfl) (fun Θ F hR => ?_)
  have hgp := gcZ_p (a := a) (b := b) (by omega)
  refine g_lload_n F dX8_tellParts_0 rfl 1 rfl ?_
  refine g_lstore F [(5, .long (Lg (a))), (0, .ref (ad 8 (0))), (1, .long (Lg (a))), (3, .long (Lg (b)))] dX8_tellParts_1 (by decide) rfl ?_
  refine g_lload_n F dX8_tellParts_3 rfl 3 rfl ?_
  refine g_lstore F [(7, .long (Lg (b))), (5, .long (Lg (a))), (0, .ref (ad 8 (0))), (1, .long (Lg (a))), (3, .long (Lg (b)))] dX8_tellParts_4 (by decide) rfl ?_
  have L6 : ∀ (N : Nat) (c : Int) (r : Int), (0 ≤ c ∧ c ≤ 4000000) ∧ 0 ≤ r ∧ r ≤ 4000000 → gcZ a b = gcZ c r → (r).toNat < N → gW Θ l D ad 11 6 [(0, .ref (ad 8 (0))), (1, .long (Lg (a))), (3, .long (Lg (b))), (5, .long (Lg (c))), (7, .long (Lg (r)))] [] x y := by
    intro N
    induction N with
    | zero => intro c r hc hg hFu; omega
    | succ N ih6 =>
      intro c r hc hg hFu
      refine g_lload F dX8_tellParts_6 4 rfl ?_
      refine g_lconst F dX8_tellParts_8 0 (by decide) ?_
      refine g_lcmp_eq 31 F dX8_tellParts_9 dX8_tellParts_10 (by omega) (by decide) rfl (fun c_1 => ?_) (fun c_1 => ?_)
      · skip
        have hcg : gcZ a b = c := by rw [hg, show r = 0 by omega, gcZ_z _ hc.1.1]
        refine g_aload_n F dX8_tellParts_31 rfl 0 rfl ?_
        refine g_lload_n F dX8_tellParts_32 rfl 1 rfl ?_
        refine g_lload F dX8_tellParts_33 3 rfl ?_
        refine g_ldivp F dX8_tellParts_35 (by omega) (by omega) (by omega) (by omega) ?_
        refine gp_Model_upper F fk_X8_243 dX8_tellParts_36 ?_
        refine g_aload_n F dX8_tellParts_39 rfl 0 rfl ?_
        refine g_lload_n F dX8_tellParts_40 rfl 2 rfl ?_
        refine g_lload F dX8_tellParts_41 3 rfl ?_
        refine g_ldivp F dX8_tellParts_43 (by omega) (by omega) (by omega) (by omega) ?_
        refine gp_Model_lower F fk_X8_37 dX8_tellParts_44 ?_
        refine g_iconst F dX8_tellParts_47 (1) (by decide) ?_
        exact g_ireturn F hR dX8_tellParts_48 (pI_i (by rfl) rfl (by unfold tpY; rw [hcg]))
      · skip
        have her := em_r (c := c) (r := r) (by omega)
        refine g_lload F dX8_tellParts_13 3 rfl ?_
        refine g_lload F dX8_tellParts_15 4 rfl ?_
        refine g_lremp F dX8_tellParts_17 (by omega) (by omega) (by omega) (by omega) ?_
        refine g_lstore F [(9, .long (Lg ((c) % (r)))), (0, .ref (ad 8 (0))), (1, .long (Lg (a))), (3, .long (Lg (b))), (5, .long (Lg (c))), (7, .long (Lg (r)))] dX8_tellParts_18 (by decide) rfl ?_
        refine g_lload F dX8_tellParts_20 5 rfl ?_
        refine g_lstore F [(5, .long (Lg (r))), (9, .long (Lg ((c) % (r)))), (0, .ref (ad 8 (0))), (1, .long (Lg (a))), (3, .long (Lg (b))), (7, .long (Lg (r)))] dX8_tellParts_22 (by decide) rfl ?_
        refine g_lload F dX8_tellParts_24 1 rfl ?_
        refine g_lstore F [(7, .long (Lg ((c) % (r)))), (5, .long (Lg (r))), (9, .long (Lg ((c) % (r)))), (0, .ref (ad 8 (0))), (1, .long (Lg (a))), (3, .long (Lg (b)))] dX8_tellParts_26 (by decide) rfl ?_
        refine g_goto F 6 dX8_tellParts_28 rfl ?_
        refine g_sub [3, 4, 5, 1, 0] (lv' := [(0, .ref (ad 8 (0))), (1, .long (Lg (a))), (3, .long (Lg (b))), (5, .long (Lg (r))), (7, .long (Lg ((c) % (r))))]) rfl ?_
        exact ih6 (r) ((c) % (r)) (by omega) (hg.trans (gcZ_s hc.1.1 hc.2.1)) (by omega)
  refine g_sub [2, 3, 4, 1, 0] (lv' := [(0, .ref (ad 8 (0))), (1, .long (Lg (a))), (3, .long (Lg (b))), (5, .long (Lg (a))), (7, .long (Lg (b)))]) rfl ?_
  exact L6 _ (a) (b) (by omega) (rfl) (Nat.lt_succ_self _)

set_option maxRecDepth 20000 in
theorem c_X8_tells (l : Launch) (D : gD) (ad : gA) (x : gX) (y : gY) (z : gX) (h : Int) (hh : i32 h) (hRel : Rel z y) : gC l D ad 6 yX8_tells cX8_tells 7 (some .int) [.ref (ad 8 (0)), .int (J (h))] x y (pH (.int (J ((sTells z h).1))) (x) (fun w9 => Rel (sTells z h).2 w9)) := by
  refine g_met RX8 rfl (by decide +kernel) [(0, .ref (ad 8 (0))), (1, .int (J (h)))] rfl (Nat.le_of_ble_eq_true rfl) (fun Θ F hR => ?_)
  have hN := hRel.1.1
  have hRW := hRel.1.2.1
  have hDD := hRel.1.2.2.1
  have hST := hRel.2.1
  have hB := Rel_SB hRel
  have h10 := hN.2.1
  have h15 := hN.2.2.1
  refine g_iload_n F dX8_tells_0 rfl 1 rfl ?_
  refine g_i2l F dX8_tells_1 (by omega) ?_
  refine g_lconst F dX8_tells_2 0 (by decide) ?_
  refine g_ldc2 F ck_X8_237 dX8_tells_3 (30) (by decide) ?_
  refine g_callS 3 F (As := [.long (Lg (h)), .long (Lg (0)), .long (Lg (30))]) (st := []) (c_X8_in l D ad x y (h) (0) (30) (by omega) (by omega) (by omega)) rfl mk_X8_74 ki_X8_in kc_X8_in (by decide +kernel) rfl (by decide) dX8_tells_6 rfl (Nat.le_of_ble_eq_true rfl) (pB_k ?_)
  refine g_ifb_ne 14 F dX8_tells_9 rfl (fun c_1 => ?_) (fun c_1 => ?_)
  · skip
    refine g_aload_n F dX8_tells_14 rfl 0 rfl ?_
    refine gg_Model_men F fk_X8_157 dX8_tells_15 ?_
    refine g_topi (b := z 10 0 0) (hST.2.2.2.2.1) ?_
    refine g_if_ne 24 F dX8_tells_18 (by omega) rfl (fun c_2 => ?_) (fun c_2 => ?_)
    · skip
      refine g_lconst F dX8_tells_24 0 (by decide) ?_
      refine g_lstore_n F [(2, .long (Lg (0))), (0, .ref (ad 8 (0))), (1, .int (J (h)))] dX8_tells_25 rfl (by decide) rfl ?_
      refine g_lconst F dX8_tells_26 0 (by decide) ?_
      refine g_lstore F [(4, .long (Lg (0))), (2, .long (Lg (0))), (0, .ref (ad 8 (0))), (1, .int (J (h)))] dX8_tells_27 (by decide) rfl ?_
      refine g_iconst F dX8_tells_29 (0) (by decide) ?_
      refine g_istore F [(6, .int (J (0))), (4, .long (Lg (0))), (2, .long (Lg (0))), (0, .ref (ad 8 (0))), (1, .int (J (h)))] dX8_tells_30 (by decide) rfl ?_
      have L32 : ∀ (N : Nat) (a : Int) (b : Int) (j : Int), 0 ≤ j ∧ j ≤ z 10 0 0 → a = sumZ (fun i => if z 6 i 0 = -9 ∧ vU z i h = 1 then 1 else 0) j → b = sumZ (fun i => if z 6 i 0 = -9 ∧ vU z i h = 1 then z 2 i 0 else 0) j → 0 ≤ b ∧ b ≤ a → (z 10 0 0 - j).toNat < N → gW Θ l D ad 7 32 [(0, .ref (ad 8 (0))), (1, .int (J (h))), (2, .long (Lg (a))), (4, .long (Lg (b))), (6, .int (J (j)))] [] x y := by
        intro N
        induction N with
        | zero => intro a b j hj ha hb hab hFu; omega
        | succ N ih32 =>
          intro a b j hj ha hb hab hFu
          refine g_iload F dX8_tells_32 4 rfl ?_
          refine g_aload_n F dX8_tells_34 rfl 0 rfl ?_
          refine gg_Model_men F fk_X8_157 dX8_tells_35 ?_
          refine g_topi (b := z 10 0 0) (hST.2.2.2.2.1) ?_
          refine g_icmp_ge 85 F dX8_tells_38 (by omega) (by omega) rfl (fun c_3 => ?_) (fun c_3 => ?_)
          · skip
            have he1 : a = cnU z h := ha.trans (by rw [show j = z 10 0 0 by omega])
            have he2 : b = gnU z h := hb.trans (by rw [show j = z 10 0 0 by omega])
            have ra : 0 ≤ a ∧ a ≤ 6 := by (have q : 0 ≤ cnU z h ∧ cnU z h ≤ z 10 0 0 := cntZ_r hN.2.1.1); rw [he1]; omega
            refine g_lload_n F dX8_tells_85 rfl 2 rfl ?_
            refine g_lconst F dX8_tells_86 0 (by decide) ?_
            refine g_lcmp_ne 100 F dX8_tells_87 dX8_tells_88 (by omega) (by decide) rfl (fun c_4 => ?_) (fun c_4 => ?_)
            · skip
              refine g_aload_n F dX8_tells_100 rfl 0 rfl ?_
              refine g_lload F dX8_tells_101 3 rfl ?_
              refine g_lload_n F dX8_tells_103 rfl 2 rfl ?_
              refine g_callV 2 F (As := [.long (Lg (b)), .long (Lg (a))]) (st := []) (c_X8_tellParts l D ad x y (b) (a) (by omega) (by omega)) (gR_8) rfl mk_X8_246 ki_X8_tellParts kc_X8_tellParts (by decide +kernel) rfl (by decide) dX8_tells_104 rfl (Nat.le_of_ble_eq_true rfl) (pI_k ?_)
              exact g_ireturn F hR dX8_tells_107 (pH_z (by unfold sTells; first | (rw [hRf_a (by omega)]; rfl) | (rw [hRf_b (by omega) (by omega)]; rfl) | (rw [hRf_c (by omega) (by omega)]; rfl)) (by unfold sTells; first | (rw [hRf_a (by omega)]; exact hRel) | (rw [hRf_b (by omega) (by omega)]; exact hRel) | (rw [hRf_c (by omega) (by omega)]; show Rel (tfM z (gnU z h) (cnU z h)) _; rw [show gnU z h = b from he2.symm, show cnU z h = a from he1.symm]; first | (rw [show a = 0 by omega, show b = 0 by omega]; exact Rel_fr0 hRel) | exact Rel_fr1 hRel (by omega))) rfl)
            · skip
              refine g_aload_n F dX8_tells_91 rfl 0 rfl ?_
              refine g_lconst F dX8_tells_92 0 (by decide) ?_
              refine g_lconst F dX8_tells_93 1 (by decide) ?_
              refine g_callV 2 F (As := [.long (Lg (0)), .long (Lg (1))]) (st := []) (c_X8_tellParts l D ad x y (0) (1) (by omega) (by omega)) (gR_8) rfl mk_X8_246 ki_X8_tellParts kc_X8_tellParts (by decide +kernel) rfl (by decide) dX8_tells_94 rfl (Nat.le_of_ble_eq_true rfl) (pI_k ?_)
              refine g_goto F 107 dX8_tells_97 rfl ?_
              exact g_ireturn F hR dX8_tells_107 (pH_z (by unfold sTells; first | (rw [hRf_a (by omega)]; rfl) | (rw [hRf_b (by omega) (by omega)]; rfl) | (rw [hRf_c (by omega) (by omega)]; rfl)) (by unfold sTells; first | (rw [hRf_a (by omega)]; exact hRel) | (rw [hRf_b (by omega) (by omega)]; exact hRel) | (rw [hRf_c (by omega) (by omega)]; show Rel (tfM z (gnU z h) (cnU z h)) _; rw [show gnU z h = b from he2.symm, show cnU z h = a from he1.symm]; first | (rw [show a = 0 by omega, show b = 0 by omega]; exact Rel_fr0 hRel) | exact Rel_fr1 hRel (by omega))) rfl)
          · skip
            have hm := hN.2.2.2 j (by omega) (by omega)
            have hv := vU_r z j h
            refine g_aload_n F dX8_tells_41 rfl 0 rfl ?_
            refine g_iload F dX8_tells_42 4 rfl ?_
            refine g_callV 1 F (As := [.int (J (j))]) (st := []) (c_X8_isDone l D ad x y z (j) (hST) (hN) (hB) (by omega)) (gR_8) rfl mk_X8_219 ki_X8_isDone kc_X8_isDone (by decide +kernel) rfl (by decide) dX8_tells_44 rfl (Nat.le_of_ble_eq_true rfl) (pB_k ?_)
            refine g_ifb_ne 79 F dX8_tells_47 rfl (fun c_5 => ?_) (fun c_5 => ?_)
            · skip
              refine g_iinc F [(6, .int (J (j + 1))), (0, .ref (ad 8 (0))), (1, .int (J (h))), (2, .long (Lg (a))), (4, .long (Lg (b)))] 4 rfl dX8_tells_79 (by decide) rfl ?_
              refine g_goto F 32 dX8_tells_82 rfl ?_
              refine g_sub [1, 2, 3, 4, 0] (lv' := [(0, .ref (ad 8 (0))), (1, .int (J (h))), (2, .long (Lg (a))), (4, .long (Lg (b))), (6, .int (J (j + 1)))]) rfl ?_
              exact ih32 (a) (b) (j + 1) (by omega) (by rw [sumZ_s _ (by omega), ← ha]; (repeat' split) <;> first | omega | contradiction) (by rw [sumZ_s _ (by omega), ← hb]; (repeat' split) <;> first | omega | contradiction) (by omega) (by omega)
            · skip
              refine g_aload_n F dX8_tells_50 rfl 0 rfl ?_
              refine g_iconst F dX8_tells_51 (0) (by decide) ?_
              refine g_iload F dX8_tells_52 4 rfl ?_
              refine g_iload_n F dX8_tells_54 rfl 1 rfl ?_
              refine g_callV 3 F (As := [.int (J (0)), .int (J (j)), .int (J (h))]) (st := []) (c_X8_tellsAt l D ad x y z (0) (j) (h) (hST) (hN) (hB) (by omega) (by omega) (by omega)) (gR_8) rfl mk_X8_222 ki_X8_tellsAt kc_X8_tellsAt (by decide +kernel) rfl (by decide) dX8_tells_55 rfl (Nat.le_of_ble_eq_true rfl) (pI_k ?_)
              refine g_iconst F dX8_tells_58 (1) (by decide) ?_
              refine g_icmp_ne 79 F dX8_tells_59 (by omega) (by decide) rfl (fun c_6 => ?_) (fun c_6 => ?_)
              · skip
                refine g_iinc F [(6, .int (J (j + 1))), (0, .ref (ad 8 (0))), (1, .int (J (h))), (2, .long (Lg (a))), (4, .long (Lg (b)))] 4 rfl dX8_tells_79 (by decide) rfl ?_
                refine g_goto F 32 dX8_tells_82 rfl ?_
                refine g_sub [1, 2, 3, 4, 0] (lv' := [(0, .ref (ad 8 (0))), (1, .int (J (h))), (2, .long (Lg (a))), (4, .long (Lg (b))), (6, .int (J (j + 1)))]) rfl ?_
                exact ih32 (a) (b) (j + 1) (by omega) (by rw [sumZ_s _ (by omega), ← ha]; (repeat' split) <;> first | omega | contradiction) (by rw [sumZ_s _ (by omega), ← hb]; (repeat' split) <;> first | omega | contradiction) (by omega) (by omega)
              · skip
                refine g_lload_n F dX8_tells_62 rfl 2 rfl ?_
                refine g_lconst F dX8_tells_63 1 (by decide) ?_
                refine g_ladd F dX8_tells_64 ?_
                refine g_lstore_n F [(2, .long (Lg ((a) + (1)))), (0, .ref (ad 8 (0))), (1, .int (J (h))), (4, .long (Lg (b))), (6, .int (J (j)))] dX8_tells_65 rfl (by decide) rfl ?_
                refine g_lload F dX8_tells_66 3 rfl ?_
                refine g_aload_n F dX8_tells_68 rfl 1 rfl ?_
                refine gg_Model_guilts F fk_X8_16 dX8_tells_69 ?_
                refine g_iload F dX8_tells_72 4 rfl ?_
                refine ga_42 F (by omega) dX8_tells_74 ?_
                refine g_topi (b := z 2 (j) 0) ((hST.2.2.2.2.2 _ (by omega) (by omega)).2.1) ?_
                refine g_i2l F dX8_tells_75 (by omega) ?_
                refine g_ladd F dX8_tells_76 ?_
                refine g_lstore F [(4, .long (Lg ((b) + (z 2 (j) 0)))), (2, .long (Lg ((a) + (1)))), (0, .ref (ad 8 (0))), (1, .int (J (h))), (6, .int (J (j)))] dX8_tells_77 (by decide) rfl ?_
                refine g_iinc F [(6, .int (J (j + 1))), (4, .long (Lg ((b) + (z 2 (j) 0)))), (2, .long (Lg ((a) + (1)))), (0, .ref (ad 8 (0))), (1, .int (J (h)))] 4 rfl dX8_tells_79 (by decide) rfl ?_
                refine g_goto F 32 dX8_tells_82 rfl ?_
                refine g_sub [3, 4, 2, 1, 0] (lv' := [(0, .ref (ad 8 (0))), (1, .int (J (h))), (2, .long (Lg ((a) + (1)))), (4, .long (Lg ((b) + (z 2 (j) 0)))), (6, .int (J (j + 1)))]) rfl ?_
                exact ih32 ((a) + (1)) ((b) + (z 2 (j) 0)) (j + 1) (by omega) (by rw [sumZ_s _ (by omega), ← ha]; (repeat' split) <;> first | omega | contradiction) (by rw [sumZ_s _ (by omega), ← hb]; (repeat' split) <;> first | omega | contradiction) (by omega) (by omega)
      refine g_sub [3, 4, 2, 1, 0] (lv' := [(0, .ref (ad 8 (0))), (1, .int (J (h))), (2, .long (Lg (0))), (4, .long (Lg (0))), (6, .int (J (0)))]) rfl ?_
      exact L32 _ (0) (0) (0) (by omega) (rfl) (rfl) (by omega) (Nat.lt_succ_self _)
    · skip
      refine g_bipush F dX8_tells_21 (-4) (by decide) ?_
      exact g_ireturn F hR dX8_tells_23 (pH_z (by unfold sTells; first | (rw [hRf_a (by omega)]; rfl) | (rw [hRf_b (by omega) (by omega)]; rfl) | (rw [hRf_c (by omega) (by omega)]; rfl)) (by unfold sTells; first | (rw [hRf_a (by omega)]; exact hRel) | (rw [hRf_b (by omega) (by omega)]; exact hRel) | (rw [hRf_c (by omega) (by omega)]; show Rel (tfM z (gnU z h) (cnU z h)) _; rw [show gnU z h = b from he2.symm, show cnU z h = a from he1.symm]; first | (rw [show a = 0 by omega, show b = 0 by omega]; exact Rel_fr0 hRel) | exact Rel_fr1 hRel (by omega))) rfl)
  · skip
    refine g_iconst F dX8_tells_12 (-1) (by decide) ?_
    exact g_ireturn F hR dX8_tells_13 (pH_z (by unfold sTells; first | (rw [hRf_a (by omega)]; rfl) | (rw [hRf_b (by omega) (by omega)]; rfl) | (rw [hRf_c (by omega) (by omega)]; rfl)) (by unfold sTells; first | (rw [hRf_a (by omega)]; exact hRel) | (rw [hRf_b (by omega) (by omega)]; exact hRel) | (rw [hRf_c (by omega) (by omega)]; show Rel (tfM z (gnU z h) (cnU z h)) _; rw [show gnU z h = b from he2.symm, show cnU z h = a from he1.symm]; first | (rw [show a = 0 by omega, show b = 0 by omega]; exact Rel_fr0 hRel) | exact Rel_fr1 hRel (by omega))) rfl)
