def smW (z : gX) (w i : Int) : Int := if w = 6 then z 5 i 0 else if sOf (z 1 i 0) 1 then 1 else 0
theorem smW_6 {z : gX} {w : Int} (h : w = 6) (n : Int) : sumZ (smW z w) n = sumZ (fun i => z 5 i 0) n := sumZ_cong (fun i _ _ => if_pos h)
theorem smW_7 {z : gX} {w : Int} (h : w ≠ 6) (n : Int) : sumZ (smW z w) n = sumZ (fun i => if sOf (z 1 i 0) 1 then 1 else 0) n := sumZ_cong (fun i _ _ => if_neg h)
theorem smW_r {z : gX} {w : Int} (hN : NOK z) {n : Int} (h0 : 0 ≤ n) (h1 : n ≤ z 10 0 0) : 0 ≤ sumZ (smW z w) n ∧ sumZ (smW z w) n ≤ 100 * n := by
  have q := sumZ_range (f := smW z w) (a := 0) (b := 100) h0 (fun i i0 i1 => by
    have := hN.2.2.2 i i0 (by omega)
    show 0 ≤ (if w = 6 then z 5 i 0 else if sOf (z 1 i 0) 1 then 1 else 0) ∧ (if w = 6 then z 5 i 0 else if sOf (z 1 i 0) 1 then 1 else 0) ≤ 100
    (repeat' split) <;> omega)
  omega
theorem smW_1 {z : gX} {w i : Int} (h : w ≠ 6) : (if sOf1 (z 1 i 0) 1 then (1 : Int) else 0) = smW z w i := by
  unfold smW
  rw [if_neg h]
  by_cases c : sOf1 (z 1 i 0) 1
  · rw [if_pos c, if_pos (by omega)]
  · rw [if_neg c, if_neg (by omega)]
set_option maxRecDepth 20000 in
theorem c_X8_findings (l : Launch) (D : gD) (ad : gA) (x : gX) (y : gY) (z : gX) (f : Int) (hf : i32 f) (hRel : Rel z y) : gC l D ad 1 yX8_findings cX8_findings 2 (some .int) [.ref (ad 8 (0)), .int (J (f))] x y (pI (sFindings z f) (x) (y)) := by
  refine g_met RX8 rfl (by decide +kernel) [(0, .ref (ad 8 (0))), (1, .int (J (f)))] rfl (Nat.le_of_ble_eq_true rfl) (fun Θ F hR => ?_)
  have hN := hRel.1.1
  have hRW := hRel.1.2.1
  have hDD := hRel.1.2.2.1
  have hST := hRel.2.1
  have hB := Rel_SB hRel
  have h10 := hN.2.1
  have h15 := hN.2.2.1
  refine g_iload_n F dX8_findings_0 rfl 1 rfl ?_
  refine g_i2l F dX8_findings_1 (by omega) ?_
  refine g_lconst F dX8_findings_2 1 (by decide) ?_
  refine g_ldc2 F ck_X8_72 dX8_findings_3 (5) (by decide) ?_
  refine g_callS 3 F (As := [.long (Lg (f)), .long (Lg (1)), .long (Lg (5))]) (st := []) (c_X8_in l D ad x y (f) (1) (5) (by omega) (by omega) (by omega)) rfl mk_X8_74 ki_X8_in kc_X8_in (by decide +kernel) rfl (by decide) dX8_findings_6 rfl (Nat.le_of_ble_eq_true rfl) (pB_k ?_)
  refine g_ifb_eq 21 F dX8_findings_9 rfl (fun c_1 => ?_) (fun c_1 => ?_)
  · skip
    refine g_iconst F dX8_findings_21 (-1) (by decide) ?_
    exact g_ireturn F hR dX8_findings_22 (pI_i (by unfold sFindings; first | (rw [if_pos (by omega)]; done) | (rw [if_neg (by omega)]; done)) rfl rfl)
  · skip
    refine g_aload_n F dX8_findings_12 rfl 0 rfl ?_
    refine gg_Model_findings F fk_X8_41 dX8_findings_13 ?_
    refine g_iload_n F dX8_findings_16 rfl 1 rfl ?_
    refine ga_49 F (by omega) dX8_findings_17 ?_
    refine g_topi (b := z 26 0 f) (hRel.2.2.2.2.2.2.2.2 f (by omega) (by omega)) ?_
    refine g_goto F 22 dX8_findings_18 rfl ?_
    exact g_ireturn F hR dX8_findings_22 (pI_i (by unfold sFindings; first | (rw [if_pos (by omega)]; done) | (rw [if_neg (by omega)]; done)) rfl rfl)

set_option maxRecDepth 20000 in
theorem c_X8_sumOf (l : Launch) (D : gD) (ad : gA) (x : gX) (y : gY) (z : gX) (w : Int) (hRel : Rel z y) (hw : w = 6 ∨ w = 7) : gC l D ad 1 yX8_sumOf cX8_sumOf 4 (some .int) [.ref (ad 8 (0)), .int (J (w))] x y (pI (sumZ (smW z w) (z 10 0 0)) (x) (y)) := by
  refine g_met RX8 rfl (by decide +kernel) [(0, .ref (ad 8 (0))), (1, .int (J (w)))] rfl (Nat.le_of_ble_eq_true rfl) (fun Θ F hR => ?_)
  have hN := hRel.1.1
  have hRW := hRel.1.2.1
  have hDD := hRel.1.2.2.1
  have hST := hRel.2.1
  have hB := Rel_SB hRel
  have h10 := hN.2.1
  have h15 := hN.2.2.1
  refine g_iconst F dX8_sumOf_0 (0) (by decide) ?_
  refine g_istore_n F [(2, .int (J (0))), (0, .ref (ad 8 (0))), (1, .int (J (w)))] dX8_sumOf_1 rfl (by decide) rfl ?_
  refine g_iconst F dX8_sumOf_2 (0) (by decide) ?_
  refine g_istore_n F [(3, .int (J (0))), (2, .int (J (0))), (0, .ref (ad 8 (0))), (1, .int (J (w)))] dX8_sumOf_3 rfl (by decide) rfl ?_
  have L4 : ∀ (N : Nat) (a : Int) (j : Int), 0 ≤ j ∧ j ≤ z 10 0 0 → a = sumZ (smW z w) j → (z 10 0 0 - j).toNat < N → gW Θ l D ad 4 4 [(0, .ref (ad 8 (0))), (1, .int (J (w))), (2, .int (J (a))), (3, .int (J (j)))] [] x y := by
    intro N
    induction N with
    | zero => intro a j hj ha hFu; omega
    | succ N ih4 =>
      intro a j hj ha hFu
      have hsr := smW_r (w := w) hN hj.1 hj.2
      rw [← ha] at hsr
      refine g_iload_n F dX8_sumOf_4 rfl 3 rfl ?_
      refine g_aload_n F dX8_sumOf_5 rfl 0 rfl ?_
      refine gg_Model_men F fk_X8_157 dX8_sumOf_6 ?_
      refine g_topi (b := z 10 0 0) (hST.2.2.2.2.1) ?_
      refine g_icmp_ge 52 F dX8_sumOf_9 (by omega) (by omega) rfl (fun c_1 => ?_) (fun c_1 => ?_)
      · skip
        refine g_iload_n F dX8_sumOf_52 rfl 2 rfl ?_
        exact g_ireturn F hR dX8_sumOf_53 (pI_i (by rw [ha, show j = z 10 0 0 by omega]) rfl rfl)
      · skip
        refine g_iload_n F dX8_sumOf_12 rfl 2 rfl ?_
        refine g_iload_n F dX8_sumOf_13 rfl 1 rfl ?_
        refine g_bipush F dX8_sumOf_14 (6) (by decide) ?_
        refine g_icmp_ne 30 F dX8_sumOf_16 (by omega) (by decide) rfl (fun c_2 => ?_) (fun c_2 => ?_)
        · skip
          refine g_aload_n F dX8_sumOf_30 rfl 0 rfl ?_
          refine g_iload_n F dX8_sumOf_31 rfl 3 rfl ?_
          refine g_iconst F dX8_sumOf_32 (1) (by decide) ?_
          refine g_callV 2 F (As := [.int (J (j)), .int (J (1))]) (st := [.int (J (a))]) (c_X8_isOf l D ad x y z (j) (1) (hST) (hN) (by omega) (by omega)) (gR_8) rfl mk_X8_199 ki_X8_isOf kc_X8_isOf (by decide +kernel) rfl (by decide) dX8_sumOf_33 rfl (Nat.le_of_ble_eq_true rfl) (pB_k ?_)
          refine g_ifb_eq 43 F dX8_sumOf_36 rfl (fun c_3 => ?_) (fun c_3 => ?_)
          · skip
            refine g_iconst F dX8_sumOf_43 (0) (by decide) ?_
            refine g_iadd F dX8_sumOf_44 ?_
            refine g_istore_n F [(2, .int (J ((a) + (0)))), (0, .ref (ad 8 (0))), (1, .int (J (w))), (3, .int (J (j)))] dX8_sumOf_45 rfl (by decide) rfl ?_
            refine g_iinc F [(3, .int (J (j + 1))), (2, .int (J ((a) + (0)))), (0, .ref (ad 8 (0))), (1, .int (J (w)))] 3 rfl dX8_sumOf_46 (by decide) rfl ?_
            refine g_goto F 4 dX8_sumOf_49 rfl ?_
            refine g_sub [2, 3, 1, 0] (lv' := [(0, .ref (ad 8 (0))), (1, .int (J (w))), (2, .int (J ((a) + (0)))), (3, .int (J (j + 1)))]) rfl ?_
            exact ih4 ((a) + (0)) (j + 1) (by omega) (by rw [ha, sumZ_s _ hj.1]; congr 1; first | exact (if_pos (by omega) : smW z w j = _).symm | (rw [← smW_1 (z := z) (w := w) (i := j) (by omega)]; first | (rw [if_pos (by assumption)]; done) | (rw [if_neg (by assumption)]; done))) (by omega)
          · skip
            refine g_iconst F dX8_sumOf_39 (1) (by decide) ?_
            refine g_goto F 44 dX8_sumOf_40 rfl ?_
            refine g_iadd F dX8_sumOf_44 ?_
            refine g_istore_n F [(2, .int (J ((a) + (1)))), (0, .ref (ad 8 (0))), (1, .int (J (w))), (3, .int (J (j)))] dX8_sumOf_45 rfl (by decide) rfl ?_
            refine g_iinc F [(3, .int (J (j + 1))), (2, .int (J ((a) + (1)))), (0, .ref (ad 8 (0))), (1, .int (J (w)))] 3 rfl dX8_sumOf_46 (by decide) rfl ?_
            refine g_goto F 4 dX8_sumOf_49 rfl ?_
            refine g_sub [2, 3, 1, 0] (lv' := [(0, .ref (ad 8 (0))), (1, .int (J (w))), (2, .int (J ((a) + (1)))), (3, .int (J (j + 1)))]) rfl ?_
            exact ih4 ((a) + (1)) (j + 1) (by omega) (by rw [ha, sumZ_s _ hj.1]; congr 1; first | exact (if_pos (by omega) : smW z w j = _).symm | (rw [← smW_1 (z := z) (w := w) (i := j) (by omega)]; first | (rw [if_pos (by assumption)]; done) | (rw [if_neg (by assumption)]; done))) (by omega)
        · skip
          have hmm := hN.2.2.2 j (by omega) (by omega)
          refine g_aload_n F dX8_sumOf_19 rfl 0 rfl ?_
          refine gg_Model_row F fk_X8_7 dX8_sumOf_20 ?_
          refine g_iconst F dX8_sumOf_23 (5) (by decide) ?_
          refine g_iload_n F dX8_sumOf_24 rfl 3 rfl ?_
          refine g_iadd F dX8_sumOf_25 ?_
          refine ga_40 F (by omega) dX8_sumOf_26 ?_
          refine g_topi (b := z 5 j 0) (SB_05 hB h10.2 (by omega) (by omega)) ?_
          refine g_goto F 44 dX8_sumOf_27 rfl ?_
          refine g_iadd F dX8_sumOf_44 ?_
          refine g_istore_n F [(2, .int (J ((a) + (z 5 j 0)))), (0, .ref (ad 8 (0))), (1, .int (J (w))), (3, .int (J (j)))] dX8_sumOf_45 rfl (by decide) rfl ?_
          refine g_iinc F [(3, .int (J (j + 1))), (2, .int (J ((a) + (z 5 j 0)))), (0, .ref (ad 8 (0))), (1, .int (J (w)))] 3 rfl dX8_sumOf_46 (by decide) rfl ?_
          refine g_goto F 4 dX8_sumOf_49 rfl ?_
          refine g_sub [2, 3, 1, 0] (lv' := [(0, .ref (ad 8 (0))), (1, .int (J (w))), (2, .int (J ((a) + (z 5 j 0)))), (3, .int (J (j + 1)))]) rfl ?_
          exact ih4 ((a) + (z 5 j 0)) (j + 1) (by omega) (by rw [ha, sumZ_s _ hj.1]; congr 1; first | exact (if_pos (by omega) : smW z w j = _).symm | (rw [← smW_1 (z := z) (w := w) (i := j) (by omega)]; first | (rw [if_pos (by assumption)]; done) | (rw [if_neg (by assumption)]; done))) (by omega)
  refine g_sub [2, 3, 1, 0] (lv' := [(0, .ref (ad 8 (0))), (1, .int (J (w))), (2, .int (J (0))), (3, .int (J (0)))]) rfl ?_
  exact L4 _ (0) (0) (by omega) (rfl) (Nat.lt_succ_self _)
