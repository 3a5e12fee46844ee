def thW (z : gX) (w j : Int) : Int := if w = 8 then (if z 17 j 0 = -1 then 0 else 1) else if w = 9 then (if j < 4 then (if z 17 (6 + j) 0 = -1 then 0 else 1) else 0) else if j < 3 then (if z 16 (1 + j) 0 = -1 then 0 else 1) else 0
theorem thW_8 (z : gX) : sumZ (thW z 8) 6 = hmU z 0 6 := sumZ_cong (fun i _ _ => by
  show thW z 8 i = if z 17 (0 + i) 0 = -1 then 0 else 1
  unfold thW
  rw [if_pos rfl, Int.zero_add])
theorem thW_9 (z : gX) : sumZ (thW z 9) 6 = hmU z 6 4 := by
  have e4 : thW z 9 4 = 0 := by unfold thW; rw [if_neg (by decide), if_pos rfl, if_neg (by decide)]
  have e5 : thW z 9 5 = 0 := by unfold thW; rw [if_neg (by decide), if_pos rfl, if_neg (by decide)]
  show sumZ (thW z 9) 4 + thW z 9 4 + thW z 9 5 = _
  rw [e4, e5, Int.add_zero, Int.add_zero]
  exact sumZ_cong (fun i _ i1 => by
    show thW z 9 i = if z 17 (6 + i) 0 = -1 then 0 else 1
    unfold thW
    rw [if_neg (by decide), if_pos rfl, if_pos i1])
theorem thW_10 (z : gX) : sumZ (thW z 10) 6 = ckU z := by
  have e3 : thW z 10 3 = 0 := by unfold thW; rw [if_neg (by decide), if_neg (by decide), if_neg (by decide)]
  have e4 : thW z 10 4 = 0 := by unfold thW; rw [if_neg (by decide), if_neg (by decide), if_neg (by decide)]
  have e5 : thW z 10 5 = 0 := by unfold thW; rw [if_neg (by decide), if_neg (by decide), if_neg (by decide)]
  show sumZ (thW z 10) 3 + thW z 10 3 + thW z 10 4 + thW z 10 5 = _
  rw [e3, e4, e5, Int.add_zero, Int.add_zero, Int.add_zero]
  exact sumZ_cong (fun i _ i1 => by
    show thW z 10 i = if z 16 (1 + i) 0 = -1 then 0 else 1
    unfold thW
    rw [if_neg (by decide), if_neg (by decide), if_pos i1])
theorem thW_01 (z : gX) (w j : Int) : 0 ≤ thW z w j ∧ thW z w j ≤ 1 := by unfold thW; (repeat' split) <;> omega
theorem thW_r (z : gX) (w : Int) {n : Int} (h0 : 0 ≤ n) : 0 ≤ sumZ (thW z w) n ∧ sumZ (thW z w) n ≤ n := by
  have q := sumZ_range (f := thW z w) (a := 0) (b := 1) h0 (fun i _ _ => thW_01 z w i)
  omega
theorem ct_w {z : gX} {w : Int} (hw : w = 0 ∨ w = 1 ∨ w = 2 ∨ w = 3 ∨ w = 4 ∨ w = 5) : ctU z w = if w = 0 then z 10 0 0 else if w = 1 then z 15 0 0 else if w = 2 then z 16 0 0 else if w = 3 then trU z else if w = 4 then tcU z else twU z := by
  unfold ctU; (repeat' split) <;> first | rfl | (exfalso; omega)
theorem ct_67 {z : gX} {w : Int} (hw : w = 6 ∨ w = 7) : ctU z w = sumZ (smW z w) (z 10 0 0) := by
  rcases hw with e | e
  · rw [smW_6 e, e]; rfl
  · rw [smW_7 (by omega), e]; rfl
theorem ct_8 {z : gX} {w : Int} (hw : 8 ≤ w ∧ w ≤ 10) : ctU z w = sumZ (thW z w) 6 := by
  rcases (show w = 8 ∨ w = 9 ∨ w = 10 by omega) with e | e | e <;> rw [e]
  · rw [thW_8]; rfl
  · rw [thW_9]; rfl
  · rw [thW_10]; rfl
theorem ct_no {z : gX} {w : Int} (hw : ¬ (0 ≤ w ∧ w ≤ 10)) : ctU z w = -1 := by unfold ctU; (repeat' split) <;> first | rfl | (exfalso; omega)
set_option maxRecDepth 20000 in
theorem c_X8_thereOf (l : Launch) (D : gD) (ad : gA) (x : gX) (y : gY) (z : gX) (w : Int) (hRel : Rel z y) (hw : 8 ≤ w ∧ w ≤ 10) : gC l D ad 0 yX8_thereOf cX8_thereOf 4 (some .int) [.ref (ad 8 (0)), .int (J (w))] x y (pI (sumZ (thW z w) 6) (x) (y)) := by
  refine g_met RX8 rfl (by decide +kernel) [(0, .ref (ad 8 (0))), (1, .int (J (w)))] rfl (Nat.le_of_ble_eq_true rfl) (fun Θ F hR => ?_)
  have hN := hRel.1.1
  have hRW := hRel.1.2.1
  have hDD := hRel.1.2.2.1
  have hST := hRel.2.1
  have hB := Rel_SB hRel
  have h10 := hN.2.1
  have h15 := hN.2.2.1
  refine g_iconst F dX8_thereOf_0 (0) (by decide) ?_
  refine g_istore_n F [(2, .int (J (0))), (0, .ref (ad 8 (0))), (1, .int (J (w)))] dX8_thereOf_1 rfl (by decide) rfl ?_
  refine g_iconst F dX8_thereOf_2 (0) (by decide) ?_
  refine g_istore_n F [(3, .int (J (0))), (2, .int (J (0))), (0, .ref (ad 8 (0))), (1, .int (J (w)))] dX8_thereOf_3 rfl (by decide) rfl ?_
  have L4 : ∀ (N : Nat) (a : Int) (j : Int), 0 ≤ j ∧ j ≤ 6 → a = sumZ (thW z w) j → (6 - j).toNat < N → gW Θ l D ad 4 4 [(0, .ref (ad 8 (0))), (1, .int (J (w))), (2, .int (J (a))), (3, .int (J (j)))] [] x y := by
    intro N
    induction N with
    | zero => intro a j hj ha hFu; omega
    | succ N ih4 =>
      intro a j hj ha hFu
      have hsr := thW_r z w hj.1
      rw [← ha] at hsr
      refine g_iload_n F dX8_thereOf_4 rfl 3 rfl ?_
      refine g_bipush F dX8_thereOf_5 (6) (by decide) ?_
      refine g_icmp_ge 97 F dX8_thereOf_7 (by omega) (by decide) rfl (fun c_1 => ?_) (fun c_1 => ?_)
      · skip
        refine g_iload_n F dX8_thereOf_97 rfl 2 rfl ?_
        exact g_ireturn F hR dX8_thereOf_98 (pI_i (by rw [ha, show j = 6 by omega]) rfl rfl)
      · skip
        refine g_iload_n F dX8_thereOf_10 rfl 2 rfl ?_
        refine g_iload_n F dX8_thereOf_11 rfl 1 rfl ?_
        refine g_bipush F dX8_thereOf_12 (8) (by decide) ?_
        refine g_icmp_ne 34 F dX8_thereOf_14 (by omega) (by decide) rfl (fun c_2 => ?_) (fun c_2 => ?_)
        · skip
          refine g_iload_n F dX8_thereOf_34 rfl 1 rfl ?_
          refine g_bipush F dX8_thereOf_35 (9) (by decide) ?_
          refine g_icmp_ne 62 F dX8_thereOf_37 (by omega) (by decide) rfl (fun c_3 => ?_) (fun c_3 => ?_)
          · skip
            refine g_iload_n F dX8_thereOf_62 rfl 3 rfl ?_
            refine g_iconst F dX8_thereOf_63 (3) (by decide) ?_
            refine g_icmp_ge 88 F dX8_thereOf_64 (by omega) (by decide) rfl (fun c_4 => ?_) (fun c_4 => ?_)
            · skip
              refine g_iconst F dX8_thereOf_88 (0) (by decide) ?_
              refine g_iadd F dX8_thereOf_89 ?_
              refine g_istore_n F [(2, .int (J ((a) + (0)))), (0, .ref (ad 8 (0))), (1, .int (J (w))), (3, .int (J (j)))] dX8_thereOf_90 rfl (by decide) rfl ?_
              refine g_iinc F [(3, .int (J (j + 1))), (2, .int (J ((a) + (0)))), (0, .ref (ad 8 (0))), (1, .int (J (w)))] 3 rfl dX8_thereOf_91 (by decide) rfl ?_
              refine g_goto F 4 dX8_thereOf_94 rfl ?_
              refine g_sub [2, 3, 1, 0] (lv' := [(0, .ref (ad 8 (0))), (1, .int (J (w))), (2, .int (J ((a) + (0)))), (3, .int (J (j + 1)))]) rfl ?_
              exact ih4 ((a) + (0)) (j + 1) (by omega) (by rw [ha, sumZ_s _ hj.1]; congr 1; unfold thW; (repeat' split) <;> first | rfl | (exfalso; omega)) (by omega)
            · skip
              have hz2 := hDD.1.2 (1 + j) (by omega) (by omega)
              refine g_aload_n F dX8_thereOf_67 rfl 0 rfl ?_
              refine gg_Model_row F fk_X8_7 dX8_thereOf_68 ?_
              refine g_sipush F dX8_thereOf_71 (657) (by decide) ?_
              refine g_iconst F dX8_thereOf_74 (1) (by decide) ?_
              refine g_iload_n F dX8_thereOf_75 rfl 3 rfl ?_
              refine g_iadd F dX8_thereOf_76 ?_
              refine g_imul F dX8_thereOf_77 ?_
              refine g_iconst F dX8_thereOf_78 (0) (by decide) ?_
              refine g_iadd F dX8_thereOf_79 ?_
              refine ga_40 F (by omega) dX8_thereOf_80 ?_
              refine g_topi (b := z 16 (1 + j) 0) (by rw [Int.add_zero]; exact (hRel.2.2.1 (1 + j) (by omega) (by omega)).1) ?_
              refine g_if_lt 88 F dX8_thereOf_81 (by omega) rfl (fun c_5 => ?_) (fun c_5 => ?_)
              · skip
                refine g_iconst F dX8_thereOf_88 (0) (by decide) ?_
                refine g_iadd F dX8_thereOf_89 ?_
                refine g_istore_n F [(2, .int (J ((a) + (0)))), (0, .ref (ad 8 (0))), (1, .int (J (w))), (3, .int (J (j)))] dX8_thereOf_90 rfl (by decide) rfl ?_
                refine g_iinc F [(3, .int (J (j + 1))), (2, .int (J ((a) + (0)))), (0, .ref (ad 8 (0))), (1, .int (J (w)))] 3 rfl dX8_thereOf_91 (by decide) rfl ?_
                refine g_goto F 4 dX8_thereOf_94 rfl ?_
                refine g_sub [2, 3, 1, 0] (lv' := [(0, .ref (ad 8 (0))), (1, .int (J (w))), (2, .int (J ((a) + (0)))), (3, .int (J (j + 1)))]) rfl ?_
                exact ih4 ((a) + (0)) (j + 1) (by omega) (by rw [ha, sumZ_s _ hj.1]; congr 1; unfold thW; (repeat' split) <;> first | rfl | (exfalso; omega)) (by omega)
              · skip
                refine g_iconst F dX8_thereOf_84 (1) (by decide) ?_
                refine g_goto F 89 dX8_thereOf_85 rfl ?_
                refine g_iadd F dX8_thereOf_89 ?_
                refine g_istore_n F [(2, .int (J ((a) + (1)))), (0, .ref (ad 8 (0))), (1, .int (J (w))), (3, .int (J (j)))] dX8_thereOf_90 rfl (by decide) rfl ?_
                refine g_iinc F [(3, .int (J (j + 1))), (2, .int (J ((a) + (1)))), (0, .ref (ad 8 (0))), (1, .int (J (w)))] 3 rfl dX8_thereOf_91 (by decide) rfl ?_
                refine g_goto F 4 dX8_thereOf_94 rfl ?_
                refine g_sub [2, 3, 1, 0] (lv' := [(0, .ref (ad 8 (0))), (1, .int (J (w))), (2, .int (J ((a) + (1)))), (3, .int (J (j + 1)))]) rfl ?_
                exact ih4 ((a) + (1)) (j + 1) (by omega) (by rw [ha, sumZ_s _ hj.1]; congr 1; unfold thW; (repeat' split) <;> first | rfl | (exfalso; omega)) (by omega)
          · skip
            refine g_iload_n F dX8_thereOf_40 rfl 3 rfl ?_
            refine g_iconst F dX8_thereOf_41 (4) (by decide) ?_
            refine g_icmp_ge 58 F dX8_thereOf_42 (by omega) (by decide) rfl (fun c_6 => ?_) (fun c_6 => ?_)
            · skip
              refine g_iconst F dX8_thereOf_58 (0) (by decide) ?_
              refine g_goto F 89 dX8_thereOf_59 rfl ?_
              refine g_iadd F dX8_thereOf_89 ?_
              refine g_istore_n F [(2, .int (J ((a) + (0)))), (0, .ref (ad 8 (0))), (1, .int (J (w))), (3, .int (J (j)))] dX8_thereOf_90 rfl (by decide) rfl ?_
              refine g_iinc F [(3, .int (J (j + 1))), (2, .int (J ((a) + (0)))), (0, .ref (ad 8 (0))), (1, .int (J (w)))] 3 rfl dX8_thereOf_91 (by decide) rfl ?_
              refine g_goto F 4 dX8_thereOf_94 rfl ?_
              refine g_sub [2, 3, 1, 0] (lv' := [(0, .ref (ad 8 (0))), (1, .int (J (w))), (2, .int (J ((a) + (0)))), (3, .int (J (j + 1)))]) rfl ?_
              exact ih4 ((a) + (0)) (j + 1) (by omega) (by rw [ha, sumZ_s _ hj.1]; congr 1; unfold thW; (repeat' split) <;> first | rfl | (exfalso; omega)) (by omega)
            · skip
              have hz1 : -1 ≤ z 17 (6 + j) 0 ∧ z 17 (6 + j) 0 ≤ 60 := by have q := (hRW (6 + j) (by omega) (by omega)).1; split at q <;> omega
              refine g_aload_n F dX8_thereOf_45 rfl 0 rfl ?_
              refine gg_Model_lengths F fk_X8_31 dX8_thereOf_46 ?_
              refine g_iload_n F dX8_thereOf_49 rfl 3 rfl ?_
              refine ga_47 F (by omega) dX8_thereOf_50 ?_
              refine g_topi (b := z 17 (6 + (j)) 0) ((hRel.2.2.2.1.2 _ (by omega) (by omega)).1) ?_
              refine g_if_lt 58 F dX8_thereOf_51 (by omega) rfl (fun c_7 => ?_) (fun c_7 => ?_)
              · skip
                refine g_iconst F dX8_thereOf_58 (0) (by decide) ?_
                refine g_goto F 89 dX8_thereOf_59 rfl ?_
                refine g_iadd F dX8_thereOf_89 ?_
                refine g_istore_n F [(2, .int (J ((a) + (0)))), (0, .ref (ad 8 (0))), (1, .int (J (w))), (3, .int (J (j)))] dX8_thereOf_90 rfl (by decide) rfl ?_
                refine g_iinc F [(3, .int (J (j + 1))), (2, .int (J ((a) + (0)))), (0, .ref (ad 8 (0))), (1, .int (J (w)))] 3 rfl dX8_thereOf_91 (by decide) rfl ?_
                refine g_goto F 4 dX8_thereOf_94 rfl ?_
                refine g_sub [2, 3, 1, 0] (lv' := [(0, .ref (ad 8 (0))), (1, .int (J (w))), (2, .int (J ((a) + (0)))), (3, .int (J (j + 1)))]) rfl ?_
                exact ih4 ((a) + (0)) (j + 1) (by omega) (by rw [ha, sumZ_s _ hj.1]; congr 1; unfold thW; (repeat' split) <;> first | rfl | (exfalso; omega)) (by omega)
              · skip
                refine g_iconst F dX8_thereOf_54 (1) (by decide) ?_
                refine g_goto F 89 dX8_thereOf_55 rfl ?_
                refine g_iadd F dX8_thereOf_89 ?_
                refine g_istore_n F [(2, .int (J ((a) + (1)))), (0, .ref (ad 8 (0))), (1, .int (J (w))), (3, .int (J (j)))] dX8_thereOf_90 rfl (by decide) rfl ?_
                refine g_iinc F [(3, .int (J (j + 1))), (2, .int (J ((a) + (1)))), (0, .ref (ad 8 (0))), (1, .int (J (w)))] 3 rfl dX8_thereOf_91 (by decide) rfl ?_
                refine g_goto F 4 dX8_thereOf_94 rfl ?_
                refine g_sub [2, 3, 1, 0] (lv' := [(0, .ref (ad 8 (0))), (1, .int (J (w))), (2, .int (J ((a) + (1)))), (3, .int (J (j + 1)))]) rfl ?_
                exact ih4 ((a) + (1)) (j + 1) (by omega) (by rw [ha, sumZ_s _ hj.1]; congr 1; unfold thW; (repeat' split) <;> first | rfl | (exfalso; omega)) (by omega)
        · skip
          have hz0 : -1 ≤ z 17 j 0 ∧ z 17 j 0 ≤ 60 := by have q := (hRW j (by omega) (by omega)).1; split at q <;> omega
          refine g_aload_n F dX8_thereOf_17 rfl 0 rfl ?_
          refine gg_Model_sizes F fk_X8_25 dX8_thereOf_18 ?_
          refine g_iload_n F dX8_thereOf_21 rfl 3 rfl ?_
          refine ga_45 F (by omega) dX8_thereOf_22 ?_
          refine g_topi (b := z 17 (j) 0) ((hRel.2.2.2.1.1 _ (by omega) (by omega)).1) ?_
          refine g_if_ge 30 F dX8_thereOf_23 (by omega) rfl (fun c_8 => ?_) (fun c_8 => ?_)
          · skip
            refine g_iconst F dX8_thereOf_30 (1) (by decide) ?_
            refine g_goto F 89 dX8_thereOf_31 rfl ?_
            refine g_iadd F dX8_thereOf_89 ?_
            refine g_istore_n F [(2, .int (J ((a) + (1)))), (0, .ref (ad 8 (0))), (1, .int (J (w))), (3, .int (J (j)))] dX8_thereOf_90 rfl (by decide) rfl ?_
            refine g_iinc F [(3, .int (J (j + 1))), (2, .int (J ((a) + (1)))), (0, .ref (ad 8 (0))), (1, .int (J (w)))] 3 rfl dX8_thereOf_91 (by decide) rfl ?_
            refine g_goto F 4 dX8_thereOf_94 rfl ?_
            refine g_sub [2, 3, 1, 0] (lv' := [(0, .ref (ad 8 (0))), (1, .int (J (w))), (2, .int (J ((a) + (1)))), (3, .int (J (j + 1)))]) rfl ?_
            exact ih4 ((a) + (1)) (j + 1) (by omega) (by rw [ha, sumZ_s _ hj.1]; congr 1; unfold thW; (repeat' split) <;> first | rfl | (exfalso; omega)) (by omega)
          · skip
            refine g_iconst F dX8_thereOf_26 (0) (by decide) ?_
            refine g_goto F 89 dX8_thereOf_27 rfl ?_
            refine g_iadd F dX8_thereOf_89 ?_
            refine g_istore_n F [(2, .int (J ((a) + (0)))), (0, .ref (ad 8 (0))), (1, .int (J (w))), (3, .int (J (j)))] dX8_thereOf_90 rfl (by decide) rfl ?_
            refine g_iinc F [(3, .int (J (j + 1))), (2, .int (J ((a) + (0)))), (0, .ref (ad 8 (0))), (1, .int (J (w)))] 3 rfl dX8_thereOf_91 (by decide) rfl ?_
            refine g_goto F 4 dX8_thereOf_94 rfl ?_
            refine g_sub [2, 3, 1, 0] (lv' := [(0, .ref (ad 8 (0))), (1, .int (J (w))), (2, .int (J ((a) + (0)))), (3, .int (J (j + 1)))]) rfl ?_
            exact ih4 ((a) + (0)) (j + 1) (by omega) (by rw [ha, sumZ_s _ hj.1]; congr 1; unfold thW; (repeat' split) <;> first | rfl | (exfalso; omega)) (by omega)
  refine g_sub [2, 3, 1, 0] (lv' := [(0, .ref (ad 8 (0))), (1, .int (J (w))), (2, .int (J (0))), (3, .int (J (0)))]) rfl ?_
  exact L4 _ (0) (0) (by omega) (rfl) (Nat.lt_succ_self _)

set_option maxRecDepth 20000 in
theorem c_X8_countOf (l : Launch) (D : gD) (ad : gA) (x : gX) (y : gY) (z : gX) (w : Int) (hRel : Rel z y) (hw : 0 ≤ w ∧ w ≤ 10) : gC l D ad 2 yX8_countOf cX8_countOf 2 (some .int) [.ref (ad 8 (0)), .int (J (w))] x y (pI (ctU z w) (x) (y)) := by
  refine g_met RX8 rfl (by decide +kernel) [(0, .ref (ad 8 (0))), (1, .int (J (w)))] rfl (Nat.le_of_ble_eq_true rfl) (fun Θ F hR => ?_)
  have hN := hRel.1.1
  have hRW := hRel.1.2.1
  have hDD := hRel.1.2.2.1
  have hST := hRel.2.1
  have hB := Rel_SB hRel
  have h10 := hN.2.1
  have h15 := hN.2.2.1
  have hds := hDD.1.1
  have h400 : y 40 0 = z 16 0 0 := by have q := (hRel.2.2.1 0 (by decide) (by decide)).1; exact q
  refine g_iload_n F dX8_countOf_0 rfl 1 rfl ?_
  have rs_1 : i32 (w) := (by omega)
  rcases (show w = 0 ∨ w = 1 ∨ w = 2 ∨ w = 3 ∨ w = 4 ∨ w = 5 ∨ w = 6 ∨ w = 7 ∨ (w ≠ 0 ∧ w ≠ 1 ∧ w ≠ 2 ∧ w ≠ 3 ∧ w ≠ 4 ∧ w ≠ 5 ∧ w ≠ 6 ∧ w ≠ 7) by omega) with s_1 | s_1 | s_1 | s_1 | s_1 | s_1 | s_1 | s_1 | s_1
  · skip
    refine g_switch F 48 dX8_countOf_1 rs_1 (by omega) (by omega) (by rw [s_1]; rfl) rfl ?_
    refine g_aload_n F dX8_countOf_48 rfl 0 rfl ?_
    refine gg_Model_men F fk_X8_157 dX8_countOf_49 ?_
    refine g_topi (b := z 10 0 0) (hST.2.2.2.2.1) ?_
    exact g_ireturn F hR dX8_countOf_52 (pI_i (by first | (rw [ct_w (by omega)]; (repeat' split) <;> first | rfl | (exfalso; omega)) | (rw [ct_67 (by omega)]; done) | (rw [ct_8 (by omega)]; done)) rfl rfl)
  · skip
    refine g_switch F 53 dX8_countOf_1 rs_1 (by omega) (by omega) (by rw [s_1]; rfl) rfl ?_
    refine g_aload_n F dX8_countOf_53 rfl 0 rfl ?_
    refine gg_Model_row F fk_X8_7 dX8_countOf_54 ?_
    refine g_iconst F dX8_countOf_57 (1) (by decide) ?_
    refine ga_40 F (by decide) dX8_countOf_58 ?_
    refine g_topi (b := z 15 0 0) (SB_00 hB) ?_
    exact g_ireturn F hR dX8_countOf_59 (pI_i (by first | (rw [ct_w (by omega)]; (repeat' split) <;> first | rfl | (exfalso; omega)) | (rw [ct_67 (by omega)]; done) | (rw [ct_8 (by omega)]; done)) rfl rfl)
  · skip
    refine g_switch F 60 dX8_countOf_1 rs_1 (by omega) (by omega) (by rw [s_1]; rfl) rfl ?_
    refine g_aload_n F dX8_countOf_60 rfl 0 rfl ?_
    refine gg_Model_row F fk_X8_7 dX8_countOf_61 ?_
    refine g_iconst F dX8_countOf_64 (0) (by decide) ?_
    refine ga_40 F (by decide) dX8_countOf_65 ?_
    refine g_topi (b := z 16 0 0) (h400) ?_
    exact g_ireturn F hR dX8_countOf_66 (pI_i (by first | (rw [ct_w (by omega)]; (repeat' split) <;> first | rfl | (exfalso; omega)) | (rw [ct_67 (by omega)]; done) | (rw [ct_8 (by omega)]; done)) rfl rfl)
  · skip
    refine g_switch F 67 dX8_countOf_1 rs_1 (by omega) (by omega) (by rw [s_1]; rfl) rfl ?_
    refine g_aload_n F dX8_countOf_67 rfl 0 rfl ?_
    refine gg_Model_row F fk_X8_7 dX8_countOf_68 ?_
    refine g_iconst F dX8_countOf_71 (2) (by decide) ?_
    refine ga_40 F (by decide) dX8_countOf_72 ?_
    refine g_topi (b := trU z) (SB_01 hB) ?_
    exact g_ireturn F hR dX8_countOf_73 (pI_i (by first | (rw [ct_w (by omega)]; (repeat' split) <;> first | rfl | (exfalso; omega)) | (rw [ct_67 (by omega)]; done) | (rw [ct_8 (by omega)]; done)) rfl rfl)
  · skip
    refine g_switch F 74 dX8_countOf_1 rs_1 (by omega) (by omega) (by rw [s_1]; rfl) rfl ?_
    refine g_aload_n F dX8_countOf_74 rfl 0 rfl ?_
    refine gg_Model_row F fk_X8_7 dX8_countOf_75 ?_
    refine g_iconst F dX8_countOf_78 (3) (by decide) ?_
    refine ga_40 F (by decide) dX8_countOf_79 ?_
    refine g_topi (b := tcU z) (SB_02 hB) ?_
    exact g_ireturn F hR dX8_countOf_80 (pI_i (by first | (rw [ct_w (by omega)]; (repeat' split) <;> first | rfl | (exfalso; omega)) | (rw [ct_67 (by omega)]; done) | (rw [ct_8 (by omega)]; done)) rfl rfl)
  · skip
    refine g_switch F 81 dX8_countOf_1 rs_1 (by omega) (by omega) (by rw [s_1]; rfl) rfl ?_
    refine g_aload_n F dX8_countOf_81 rfl 0 rfl ?_
    refine gg_Model_row F fk_X8_7 dX8_countOf_82 ?_
    refine g_iconst F dX8_countOf_85 (4) (by decide) ?_
    refine ga_40 F (by decide) dX8_countOf_86 ?_
    refine g_topi (b := twU z) (SB_03 hB) ?_
    exact g_ireturn F hR dX8_countOf_87 (pI_i (by first | (rw [ct_w (by omega)]; (repeat' split) <;> first | rfl | (exfalso; omega)) | (rw [ct_67 (by omega)]; done) | (rw [ct_8 (by omega)]; done)) rfl rfl)
  · skip
    refine g_switch F 88 dX8_countOf_1 rs_1 (by omega) (by omega) (by rw [s_1]; rfl) rfl ?_
    refine g_aload_n F dX8_countOf_88 rfl 0 rfl ?_
    refine g_iload_n F dX8_countOf_89 rfl 1 rfl ?_
    refine g_callV 1 F (As := [.int (J (w))]) (st := []) (c_X8_sumOf l D ad x y z (w) (hRel) (by omega)) (gR_8) rfl mk_X8_310 ki_X8_sumOf kc_X8_sumOf (by decide +kernel) rfl (by decide) dX8_countOf_90 rfl (Nat.le_of_ble_eq_true rfl) (pI_k ?_)
    exact g_ireturn F hR dX8_countOf_93 (pI_i (by first | (rw [ct_w (by omega)]; (repeat' split) <;> first | rfl | (exfalso; omega)) | (rw [ct_67 (by omega)]; done) | (rw [ct_8 (by omega)]; done)) rfl rfl)
  · skip
    refine g_switch F 88 dX8_countOf_1 rs_1 (by omega) (by omega) (by rw [s_1]; rfl) rfl ?_
    refine g_aload_n F dX8_countOf_88 rfl 0 rfl ?_
    refine g_iload_n F dX8_countOf_89 rfl 1 rfl ?_
    refine g_callV 1 F (As := [.int (J (w))]) (st := []) (c_X8_sumOf l D ad x y z (w) (hRel) (by omega)) (gR_8) rfl mk_X8_310 ki_X8_sumOf kc_X8_sumOf (by decide +kernel) rfl (by decide) dX8_countOf_90 rfl (Nat.le_of_ble_eq_true rfl) (pI_k ?_)
    exact g_ireturn F hR dX8_countOf_93 (pI_i (by first | (rw [ct_w (by omega)]; (repeat' split) <;> first | rfl | (exfalso; omega)) | (rw [ct_67 (by omega)]; done) | (rw [ct_8 (by omega)]; done)) rfl rfl)
  · skip
    refine g_switchD F 94 dX8_countOf_1 rs_1 (by omega) rfl ?_
    refine g_aload_n F dX8_countOf_94 rfl 0 rfl ?_
    refine g_iload_n F dX8_countOf_95 rfl 1 rfl ?_
    refine g_callV 1 F (As := [.int (J (w))]) (st := []) (c_X8_thereOf l D ad x y z (w) (hRel) (by omega)) (gR_8) rfl mk_X8_313 ki_X8_thereOf kc_X8_thereOf (by decide +kernel) rfl (by decide) dX8_countOf_96 rfl (Nat.le_of_ble_eq_true rfl) (pI_k ?_)
    exact g_ireturn F hR dX8_countOf_99 (pI_i (by first | (rw [ct_w (by omega)]; (repeat' split) <;> first | rfl | (exfalso; omega)) | (rw [ct_67 (by omega)]; done) | (rw [ct_8 (by omega)]; done)) rfl rfl)

set_option maxRecDepth 20000 in
theorem c_X8_count (l : Launch) (D : gD) (ad : gA) (x : gX) (y : gY) (z : gX) (w : Int) (hw : i32 w) (hRel : Rel z y) : gC l D ad 3 yX8_count cX8_count 2 (some .int) [.ref (ad 8 (0)), .int (J (w))] x y (pI (ctU z w) (x) (y)) := by
  refine g_met RX8 rfl (by decide +kernel) [(0, .ref (ad 8 (0))), (1, .int (J (w)))] rfl (Nat.le_of_ble_eq_true rfl) (fun Θ F hR => ?_)
  have hN := hRel.1.1
  have hRW := hRel.1.2.1
  have hDD := hRel.1.2.2.1
  have hST := hRel.2.1
  have hB := Rel_SB hRel
  have h10 := hN.2.1
  have h15 := hN.2.2.1
  refine g_iload_n F dX8_count_0 rfl 1 rfl ?_
  refine g_i2l F dX8_count_1 (by omega) ?_
  refine g_lconst F dX8_count_2 0 (by decide) ?_
  refine g_ldc2 F ck_X8_316 dX8_count_3 (10) (by decide) ?_
  refine g_callS 3 F (As := [.long (Lg (w)), .long (Lg (0)), .long (Lg (10))]) (st := []) (c_X8_in l D ad x y (w) (0) (10) (by omega) (by omega) (by omega)) rfl mk_X8_74 ki_X8_in kc_X8_in (by decide +kernel) rfl (by decide) dX8_count_6 rfl (Nat.le_of_ble_eq_true rfl) (pB_k ?_)
  refine g_ifb_eq 20 F dX8_count_9 rfl (fun c_1 => ?_) (fun c_1 => ?_)
  · skip
    refine g_iconst F dX8_count_20 (-1) (by decide) ?_
    exact g_ireturn F hR dX8_count_21 (pI_i (by first | done | (rw [ct_no (by omega)]; done) | rfl) rfl rfl)
  · skip
    refine g_aload_n F dX8_count_12 rfl 0 rfl ?_
    refine g_iload_n F dX8_count_13 rfl 1 rfl ?_
    refine g_callV 1 F (As := [.int (J (w))]) (st := []) (c_X8_countOf l D ad x y z (w) (hRel) (by omega)) (gR_8) rfl mk_X8_318 ki_X8_countOf kc_X8_countOf (by decide +kernel) rfl (by decide) dX8_count_14 rfl (Nat.le_of_ble_eq_true rfl) (pI_k ?_)
    refine g_goto F 21 dX8_count_17 rfl ?_
    exact g_ireturn F hR dX8_count_21 (pI_i (by first | done | (rw [ct_no (by omega)]; done) | rfl) rfl rfl)
