set_option maxRecDepth 20000 in
theorem c_L_cell (l : Launch) (D : gD) (ad : gA) (x : gX) (y : gY) (b L : Nat) (sc : Int → Int) (hL : L ≤ 260) (hsc : ∀ j : Int, i32 (sc j)) (k : Int) (hk : 0 ≤ k ∧ k ≤ 100) : gCS l D ad 0 yL_cell cL_cell 2 (some .int) [.ref b, .int (J (k))] x y b L sc (pI (clZ sc L k) (x) (y)) := by
  refine g_metS RL rfl (by decide +kernel) [(0, .ref b), (1, .int (J (k)))] rfl (Nat.le_of_ble_eq_true rfl) (fun Θ F hX hR => ?_)
  refine g_iload_n F dL_cell_0 rfl 1 rfl ?_
  refine g_aload_n F dL_cell_1 rfl 0 rfl ?_
  refine g_slen F hX (by omega) dL_cell_2 ?_
  refine g_icmp_ge 12 F dL_cell_3 (by omega) (by omega) rfl (fun c_1 => ?_) (fun c_1 => ?_)
  · skip
    refine g_ldc F ck_L_7 dL_cell_12 (40503) (by decide) ?_
    refine g_iload_n F dL_cell_14 rfl 1 rfl ?_
    refine g_bipush F dL_cell_15 (7) (by decide) ?_
    refine g_iadd F dL_cell_17 ?_
    refine g_imul F dL_cell_18 ?_
    exact g_ireturn F hR dL_cell_19 (pI_i (by unfold clZ; split <;> first | rfl | omega) rfl rfl)
  · skip
    refine g_aload_n F dL_cell_6 rfl 0 rfl ?_
    refine g_iload_n F dL_cell_7 rfl 1 rfl ?_
    refine g_sld F hX (by omega) (by omega) dL_cell_8 ?_
    refine g_goto F 19 dL_cell_9 rfl ?_
    exact g_ireturn F hR dL_cell_19 (pI_i (by unfold clZ; split <;> first | rfl | omega) rfl rfl)

set_option maxRecDepth 20000 in
theorem c_L_low (l : Launch) (D : gD) (ad : gA) (x : gX) (y : gY) (v n : Int) (hn : 1 ≤ n ∧ n ≤ 100) : gC l D ad 0 yL_low cL_low 2 (some .int) [.int (J (v)), .int (J (n))] x y (pI (lwZ v n) (x) (y)) := by
  refine g_met RL rfl (by decide +kernel) [(0, .int (J (v))), (1, .int (J (n)))] rfl (Nat.le_of_ble_eq_true rfl) (fun Θ F hR => ?_)
  have r := anZ_r (a := v) (m := 2147483647) (by decide)
  refine g_iload_n F dL_low_0 rfl 0 rfl ?_
  refine g_ldc F ck_L_8 dL_low_1 (2147483647) (by decide) ?_
  refine g_iand F dL_low_3 (anZ v 2147483647) (J_an v 2147483647) ?_
  refine g_iload_n F dL_low_4 rfl 1 rfl ?_
  refine g_iremp F dL_low_5 (by omega) (by omega) (by omega) (by omega) ?_
  exact g_ireturn F hR dL_low_6 (pI_i (by rfl) rfl rfl)

set_option maxRecDepth 20000 in
theorem c_L_letter (l : Launch) (D : gD) (ad : gA) (x : gX) (y : gY) (k : Int) (hk : 0 ≤ k ∧ k ≤ 5) : gC l D ad 0 yL_letter cL_letter 1 (some .int) [.int (J (k))] x y (pI (ltrZ k) (x) (y)) := by
  refine g_met RL rfl (by decide +kernel) [(0, .int (J (k)))] rfl (Nat.le_of_ble_eq_true rfl) (fun Θ F hR => ?_)
  refine g_iload_n F dL_letter_0 rfl 0 rfl ?_
  refine g_if_ne 9 F dL_letter_1 (by omega) rfl (fun c_1 => ?_) (fun c_1 => ?_)
  · skip
    refine g_iload_n F dL_letter_9 rfl 0 rfl ?_
    refine g_iconst F dL_letter_10 (1) (by decide) ?_
    refine g_icmp_ne 19 F dL_letter_11 (by omega) (by decide) rfl (fun c_2 => ?_) (fun c_2 => ?_)
    · skip
      refine g_iload_n F dL_letter_19 rfl 0 rfl ?_
      refine g_iconst F dL_letter_20 (2) (by decide) ?_
      refine g_icmp_ne 29 F dL_letter_21 (by omega) (by decide) rfl (fun c_3 => ?_) (fun c_3 => ?_)
      · skip
        refine g_iload_n F dL_letter_29 rfl 0 rfl ?_
        refine g_iconst F dL_letter_30 (3) (by decide) ?_
        refine g_icmp_ne 39 F dL_letter_31 (by omega) (by decide) rfl (fun c_4 => ?_) (fun c_4 => ?_)
        · skip
          refine g_iload_n F dL_letter_39 rfl 0 rfl ?_
          refine g_iconst F dL_letter_40 (4) (by decide) ?_
          refine g_icmp_ne 49 F dL_letter_41 (by omega) (by decide) rfl (fun c_5 => ?_) (fun c_5 => ?_)
          · skip
            refine g_bipush F dL_letter_49 (110) (by decide) ?_
            exact g_ireturn F hR dL_letter_51 (pI_i (by unfold ltrZ; (repeat' split) <;> first | rfl | omega) rfl rfl)
          · skip
            refine g_bipush F dL_letter_44 (120) (by decide) ?_
            refine g_goto F 51 dL_letter_46 rfl ?_
            exact g_ireturn F hR dL_letter_51 (pI_i (by unfold ltrZ; (repeat' split) <;> first | rfl | omega) rfl rfl)
        · skip
          refine g_bipush F dL_letter_34 (119) (by decide) ?_
          refine g_goto F 51 dL_letter_36 rfl ?_
          exact g_ireturn F hR dL_letter_51 (pI_i (by unfold ltrZ; (repeat' split) <;> first | rfl | omega) rfl rfl)
      · skip
        refine g_bipush F dL_letter_24 (99) (by decide) ?_
        refine g_goto F 51 dL_letter_26 rfl ?_
        exact g_ireturn F hR dL_letter_51 (pI_i (by unfold ltrZ; (repeat' split) <;> first | rfl | omega) rfl rfl)
    · skip
      refine g_bipush F dL_letter_14 (112) (by decide) ?_
      refine g_goto F 51 dL_letter_16 rfl ?_
      exact g_ireturn F hR dL_letter_51 (pI_i (by unfold ltrZ; (repeat' split) <;> first | rfl | omega) rfl rfl)
  · skip
    refine g_bipush F dL_letter_4 (109) (by decide) ?_
    refine g_goto F 51 dL_letter_6 rfl ?_
    exact g_ireturn F hR dL_letter_51 (pI_i (by unfold ltrZ; (repeat' split) <;> first | rfl | omega) rfl rfl)

set_option maxRecDepth 20000 in
theorem c_L_bits (l : Launch) (D : gD) (ad : gA) (x : gX) (y : gY) (s : Int) (hs : 0 ≤ s ∧ s < 2147483648) : gC l D ad 0 yL_bits cL_bits 3 (some .int) [.int (J (s))] x y (pI (pcZ s) (x) (y)) := by
  refine g_met RL rfl (by decide +kernel) [(0, .int (J (s)))] rfl (Nat.le_of_ble_eq_true rfl) (fun Θ F hR => ?_)
  refine g_iconst F dL_bits_0 (0) (by decide) ?_
  refine g_istore_n F [(1, .int (J (0))), (0, .int (J (s)))] dL_bits_1 rfl (by decide) rfl ?_
  refine g_iconst F dL_bits_2 (0) (by decide) ?_
  refine g_istore_n F [(2, .int (J (0))), (1, .int (J (0))), (0, .int (J (s)))] dL_bits_3 rfl (by decide) rfl ?_
  have L4 : ∀ (N : Nat) (a : Int) (j : Int), 0 ≤ j ∧ j ≤ 31 → a = sumZ (fun k => s / p2 k % 2) j → 0 ≤ a ∧ a ≤ j → (31 - j).toNat < N → gW Θ l D ad 3 4 [(0, .int (J (s))), (1, .int (J (a))), (2, .int (J (j)))] [] x y := by
    intro N
    induction N with
    | zero => intro a j hj ha hr hFu; omega
    | succ N ih4 =>
      intro a j hj ha hr hFu
      refine g_iload_n F dL_bits_4 rfl 2 rfl ?_
      refine g_bipush F dL_bits_5 (31) (by decide) ?_
      refine g_icmp_ge 24 F dL_bits_7 (by omega) (by decide) rfl (fun c_1 => ?_) (fun c_1 => ?_)
      · skip
        refine g_iload_n F dL_bits_24 rfl 1 rfl ?_
        exact g_ireturn F hR dL_bits_25 (pI_i (by exact ha.trans (by rw [show j = 31 by omega])) rfl rfl)
      · skip
        refine g_iload_n F dL_bits_10 rfl 1 rfl ?_
        refine g_iload_n F dL_bits_11 rfl 0 rfl ?_
        refine g_iload_n F dL_bits_12 rfl 2 rfl ?_
        refine g_ishr F dL_bits_13 (s / p2 j) (J_shr hs ⟨by omega, by omega⟩) ?_
        refine g_iconst F dL_bits_14 (1) (by decide) ?_
        refine g_iand F dL_bits_15 (s / p2 j % 2) (J_bt hs ⟨by omega, by omega⟩) ?_
        refine g_iadd F dL_bits_16 ?_
        refine g_istore_n F [(1, .int (J ((a) + (s / p2 j % 2)))), (0, .int (J (s))), (2, .int (J (j)))] dL_bits_17 rfl (by decide) rfl ?_
        refine g_iinc F [(2, .int (J (j + 1))), (1, .int (J ((a) + (s / p2 j % 2)))), (0, .int (J (s)))] 2 rfl dL_bits_18 (by decide) rfl ?_
        refine g_goto F 4 dL_bits_21 rfl ?_
        refine g_sub [2, 1, 0] (lv' := [(0, .int (J (s))), (1, .int (J ((a) + (s / p2 j % 2)))), (2, .int (J (j + 1)))]) rfl ?_
        exact ih4 ((a) + (s / p2 j % 2)) (j + 1) (by omega) (by rw [sumZ_s _ (by omega), ← ha]) (by have := Int.emod_nonneg (s / p2 j) (by decide : (2 : Int) ≠ 0); have := Int.emod_lt_of_pos (s / p2 j) (by decide : (0 : Int) < 2); omega) (by omega)
  refine g_sub [2, 1, 0] (lv' := [(0, .int (J (s))), (1, .int (J (0))), (2, .int (J (0)))]) rfl ?_
  exact L4 _ (0) (0) (by omega) (rfl) (by omega) (Nat.lt_succ_self _)

set_option maxRecDepth 20000 in
theorem c_L_hard (l : Launch) (D : gD) (ad : gA) (x : gX) (y : gY) (k d : Int) (hk : 0 ≤ k ∧ k ≤ 5) (hd : 0 ≤ d ∧ d ≤ 9) : gC l D ad 0 yL_hard cL_hard 2 (some .int) [.int (J (k)), .int (J (d))] x y (pI (sHard k d) (x) (y)) := by
  refine g_met RL rfl (by decide +kernel) [(0, .int (J (k))), (1, .int (J (d)))] rfl (Nat.le_of_ble_eq_true rfl) (fun Θ F hR => ?_)
  refine g_iload_n F dL_hard_0 rfl 0 rfl ?_
  refine g_iconst F dL_hard_1 (2) (by decide) ?_
  refine g_icmp_eq 10 F dL_hard_2 (by omega) (by decide) rfl (fun c_1 => ?_) (fun c_1 => ?_)
  · skip
    refine g_iload_n F dL_hard_10 rfl 1 rfl ?_
    refine g_iconst F dL_hard_11 (1) (by decide) ?_
    refine g_ishr F dL_hard_12 (d / 2) (J_shr1 ⟨by omega, by omega⟩) ?_
    refine g_goto F 37 dL_hard_13 rfl ?_
    exact g_ireturn F hR dL_hard_37 (pI_i (by unfold sHard; (repeat' split) <;> omega) rfl rfl)
  · skip
    refine g_iload_n F dL_hard_5 rfl 0 rfl ?_
    refine g_iconst F dL_hard_6 (5) (by decide) ?_
    refine g_icmp_ne 16 F dL_hard_7 (by omega) (by decide) rfl (fun c_2 => ?_) (fun c_2 => ?_)
    · skip
      refine g_iload_n F dL_hard_16 rfl 1 rfl ?_
      refine g_iload_n F dL_hard_17 rfl 0 rfl ?_
      refine g_iconst F dL_hard_18 (1) (by decide) ?_
      refine g_icmp_ne 26 F dL_hard_19 (by omega) (by decide) rfl (fun c_3 => ?_) (fun c_3 => ?_)
      · skip
        refine g_iload_n F dL_hard_26 rfl 0 rfl ?_
        refine g_iconst F dL_hard_27 (4) (by decide) ?_
        refine g_icmp_ne 35 F dL_hard_28 (by omega) (by decide) rfl (fun c_4 => ?_) (fun c_4 => ?_)
        · skip
          refine g_iconst F dL_hard_35 (0) (by decide) ?_
          refine g_iadd F dL_hard_36 ?_
          exact g_ireturn F hR dL_hard_37 (pI_i (by unfold sHard; (repeat' split) <;> omega) rfl rfl)
        · skip
          refine g_iconst F dL_hard_31 (5) (by decide) ?_
          refine g_goto F 36 dL_hard_32 rfl ?_
          refine g_iadd F dL_hard_36 ?_
          exact g_ireturn F hR dL_hard_37 (pI_i (by unfold sHard; (repeat' split) <;> omega) rfl rfl)
      · skip
        refine g_iconst F dL_hard_22 (3) (by decide) ?_
        refine g_goto F 36 dL_hard_23 rfl ?_
        refine g_iadd F dL_hard_36 ?_
        exact g_ireturn F hR dL_hard_37 (pI_i (by unfold sHard; (repeat' split) <;> omega) rfl rfl)
    · skip
      refine g_iload_n F dL_hard_10 rfl 1 rfl ?_
      refine g_iconst F dL_hard_11 (1) (by decide) ?_
      refine g_ishr F dL_hard_12 (d / 2) (J_shr1 ⟨by omega, by omega⟩) ?_
      refine g_goto F 37 dL_hard_13 rfl ?_
      exact g_ireturn F hR dL_hard_37 (pI_i (by unfold sHard; (repeat' split) <;> omega) rfl rfl)

set_option maxRecDepth 20000 in
theorem c_L_feels (l : Launch) (D : gD) (ad : gA) (x : gX) (y : gY) (i h : Int) (hN : NOK x) (hp : PG x y) (hi : 0 ≤ i ∧ i < x 10 0 0) (hh : 0 ≤ h ∧ h ≤ 100) : gC l D ad 0 yL_feels cL_feels 4 (some .int) [.ref (ad 41 (0)), .int (J (i)), .int (J (h))] x y (pI (sPlain (x 12 0 0) (x 3 i 0) h) (x) (y)) := by
  refine g_met RL rfl (by decide +kernel) [(0, .ref (ad 41 (0))), (1, .int (J (i))), (2, .int (J (h)))] rfl (Nat.le_of_ble_eq_true rfl) (fun Θ F hR => ?_)
  have hm := hN.2.2.2 i hi.1 hi.2
  have hI := hN.1
  have h10 := hN.2.1
  have h15 := hN.2.2.1
  refine g_aload_n F dL_feels_0 rfl 0 rfl ?_
  refine g_bipush F dL_feels_1 (17) (by decide) ?_
  refine g_iload_n F dL_feels_3 rfl 1 rfl ?_
  refine g_iadd F dL_feels_4 ?_
  refine ga_41 F (by omega) dL_feels_5 ?_
  refine g_topi (b := x 3 i 0) (pg_b hp hi.1 hi.2) ?_
  refine g_iconst F dL_feels_6 (5) (by decide) ?_
  refine g_icmp_ge 14 F dL_feels_7 (by omega) (by decide) rfl (fun c_1 => ?_) (fun c_1 => ?_)
  · skip
    refine g_aload_n F dL_feels_14 rfl 0 rfl ?_
    refine g_iconst F dL_feels_15 (2) (by decide) ?_
    refine ga_41 F (by decide) dL_feels_16 ?_
    refine g_topi (b := x 12 0 0) (hp.2.2.1) ?_
    refine g_istore_n F [(3, .int (J (x 12 0 0))), (0, .ref (ad 41 (0))), (1, .int (J (i))), (2, .int (J (h)))] dL_feels_17 rfl (by decide) rfl ?_
    refine g_iload_n F dL_feels_18 rfl 3 rfl ?_
    refine g_iload_n F dL_feels_19 rfl 0 rfl ?_
    refine g_icmp_ge 27 F dL_feels_20 (by omega) (by omega) rfl (fun c_2 => ?_) (fun c_2 => ?_)
    · skip
      refine g_iload_n F dL_feels_27 rfl 3 rfl ?_
      refine g_iload_n F dL_feels_28 rfl 0 rfl ?_
      refine g_isub F dL_feels_29 ?_
      exact g_ireturn F hR dL_feels_30 (pI_i (by unfold sPlain; (repeat' split) <;> omega) rfl rfl)
    · skip
      refine g_iconst F dL_feels_23 (0) (by decide) ?_
      refine g_goto F 30 dL_feels_24 rfl ?_
      exact g_ireturn F hR dL_feels_30 (pI_i (by unfold sPlain; (repeat' split) <;> omega) rfl rfl)
  · skip
    refine g_iconst F dL_feels_10 (0) (by decide) ?_
    refine g_goto F 17 dL_feels_11 rfl ?_
    refine g_istore_n F [(3, .int (J (0))), (0, .ref (ad 41 (0))), (1, .int (J (i))), (2, .int (J (h)))] dL_feels_17 rfl (by decide) rfl ?_
    refine g_iload_n F dL_feels_18 rfl 3 rfl ?_
    refine g_iload_n F dL_feels_19 rfl 0 rfl ?_
    refine g_icmp_ge 27 F dL_feels_20 (by omega) (by decide) rfl (fun c_3 => ?_) (fun c_3 => ?_)
    · skip
      refine g_iload_n F dL_feels_27 rfl 3 rfl ?_
      refine g_iload_n F dL_feels_28 rfl 0 rfl ?_
      refine g_isub F dL_feels_29 ?_
      exact g_ireturn F hR dL_feels_30 (pI_i (by unfold sPlain; (repeat' split) <;> omega) rfl rfl)
    · skip
      refine g_iconst F dL_feels_23 (0) (by decide) ?_
      refine g_goto F 30 dL_feels_24 rfl ?_
      exact g_ireturn F hR dL_feels_30 (pI_i (by unfold sPlain; (repeat' split) <;> omega) rfl rfl)

set_option maxRecDepth 20000 in
theorem c_L_burns (l : Launch) (D : gD) (ad : gA) (x : gX) (y : gY) (i k d h : Int) (hN : NOK x) (hp : PG x y) (hi : 0 ≤ i ∧ i < x 10 0 0) (hk : 0 ≤ k ∧ k ≤ 5) (hd : 0 ≤ d ∧ d ≤ 9) (hh : 0 ≤ h ∧ h ≤ 100) : gC l D ad 1 yL_burns cL_burns 7 (some .int) [.ref (ad 41 (0)), .int (J (i)), .int (J (k)), .int (J (d)), .int (J (h))] x y (pI (sBurn (x 11 0 0) (x 12 0 0) k (x 3 i 0) d h) (x) (y)) := by
  refine g_met RL rfl (by decide +kernel) [(0, .ref (ad 41 (0))), (1, .int (J (i))), (2, .int (J (k))), (3, .int (J (d))), (4, .int (J (h)))] rfl (Nat.le_of_ble_eq_true rfl) (fun Θ F hR => ?_)
  have hm := hN.2.2.2 i hi.1 hi.2
  have hI := hN.1
  have h10 := hN.2.1
  have h15 := hN.2.2.1
  have r1 := sPlain_r (m := x 12 0 0) (b := x 3 i 0) hh hI.2.1.1
  have r2 := pm_r hI.1 r1
  have r3 := pm_r hI.1 (f := sPlain (x 12 0 0) (x 3 i 0) h / 2) (by omega)
  have r4 := sHard_r (k := k) hd
  refine g_aload_n F dL_burns_0 rfl 0 rfl ?_
  refine g_iload_n F dL_burns_1 rfl 1 rfl ?_
  refine g_iload F dL_burns_2 4 rfl ?_
  refine g_callS 3 F (As := [.ref (ad 41 (0)), .int (J (i)), .int (J (h))]) (st := []) (c_L_feels l D ad x y (i) (h) (hN) (by omega) (by omega) (by omega)) rfl mk_L_38 ki_L_feels kc_L_feels (by decide +kernel) rfl (by decide) dL_burns_4 rfl (Nat.le_of_ble_eq_true rfl) (pI_k ?_)
  refine g_istore F [(5, .int (J (sPlain (x 12 0 0) (x 3 (i) 0) (h)))), (0, .ref (ad 41 (0))), (1, .int (J (i))), (2, .int (J (k))), (3, .int (J (d))), (4, .int (J (h)))] dL_burns_7 (by decide) rfl ?_
  refine g_aload_n F dL_burns_9 rfl 1 rfl ?_
  refine g_iconst F dL_burns_10 (1) (by decide) ?_
  refine ga_41 F (by decide) dL_burns_11 ?_
  refine g_topi (b := x 11 0 0) (hp.2.1) ?_
  refine g_iload_n F dL_burns_12 rfl 3 rfl ?_
  refine g_iconst F dL_burns_13 (5) (by decide) ?_
  refine g_icmp_ne 24 F dL_burns_14 (by omega) (by decide) rfl (fun c_1 => ?_) (fun c_1 => ?_)
  · skip
    refine g_iload F dL_burns_24 0 rfl ?_
    refine g_imul F dL_burns_26 ?_
    refine g_iload_n F dL_burns_27 rfl 3 rfl ?_
    refine g_iload_n F dL_burns_28 rfl 4 rfl ?_
    refine g_callS 2 F (As := [.int (J (k)), .int (J (d))]) (st := [.int (J ((x 11 0 0) * (sPlain (x 12 0 0) (x 3 (i) 0) (h))))]) (c_L_hard l D ad x y (k) (d) (by omega) (by omega)) rfl mk_L_42 ki_L_hard kc_L_hard (by decide +kernel) rfl (by decide) dL_burns_29 rfl (Nat.le_of_ble_eq_true rfl) (pI_k ?_)
    refine g_isub F dL_burns_32 ?_
    refine g_istore F [(6, .int (J (((x 11 0 0) * (sPlain (x 12 0 0) (x 3 (i) 0) (h))) - (sHard (k) (d))))), (5, .int (J (sPlain (x 12 0 0) (x 3 (i) 0) (h)))), (0, .ref (ad 41 (0))), (1, .int (J (i))), (2, .int (J (k))), (3, .int (J (d))), (4, .int (J (h)))] dL_burns_33 (by decide) rfl ?_
    refine g_iload F dL_burns_35 0 rfl ?_
    refine g_if_ge 44 F dL_burns_37 (by omega) rfl (fun c_2 => ?_) (fun c_2 => ?_)
    · skip
      refine g_iload F dL_burns_44 0 rfl ?_
      exact g_ireturn F hR dL_burns_46 (pI_i (by unfold sBurn sFelt; split <;> omega) rfl rfl)
    · skip
      refine g_iconst F dL_burns_40 (0) (by decide) ?_
      refine g_goto F 46 dL_burns_41 rfl ?_
      exact g_ireturn F hR dL_burns_46 (pI_i (by unfold sBurn sFelt; split <;> omega) rfl rfl)
  · skip
    refine g_iload F dL_burns_17 0 rfl ?_
    refine g_iconst F dL_burns_19 (1) (by decide) ?_
    refine g_ishr F dL_burns_20 (sPlain (x 12 0 0) (x 3 (i) 0) (h) / 2) (J_shr1 ⟨by omega, by omega⟩) ?_
    refine g_goto F 26 dL_burns_21 rfl ?_
    refine g_imul F dL_burns_26 ?_
    refine g_iload_n F dL_burns_27 rfl 3 rfl ?_
    refine g_iload_n F dL_burns_28 rfl 4 rfl ?_
    refine g_callS 2 F (As := [.int (J (k)), .int (J (d))]) (st := [.int (J ((x 11 0 0) * (sPlain (x 12 0 0) (x 3 (i) 0) (h) / 2)))]) (c_L_hard l D ad x y (k) (d) (by omega) (by omega)) rfl mk_L_42 ki_L_hard kc_L_hard (by decide +kernel) rfl (by decide) dL_burns_29 rfl (Nat.le_of_ble_eq_true rfl) (pI_k ?_)
    refine g_isub F dL_burns_32 ?_
    refine g_istore F [(6, .int (J (((x 11 0 0) * (sPlain (x 12 0 0) (x 3 (i) 0) (h) / 2)) - (sHard (k) (d))))), (5, .int (J (sPlain (x 12 0 0) (x 3 (i) 0) (h)))), (0, .ref (ad 41 (0))), (1, .int (J (i))), (2, .int (J (k))), (3, .int (J (d))), (4, .int (J (h)))] dL_burns_33 (by decide) rfl ?_
    refine g_iload F dL_burns_35 0 rfl ?_
    refine g_if_ge 44 F dL_burns_37 (by omega) rfl (fun c_3 => ?_) (fun c_3 => ?_)
    · skip
      refine g_iload F dL_burns_44 0 rfl ?_
      exact g_ireturn F hR dL_burns_46 (pI_i (by unfold sBurn sFelt; split <;> omega) rfl rfl)
    · skip
      refine g_iconst F dL_burns_40 (0) (by decide) ?_
      refine g_goto F 46 dL_burns_41 rfl ?_
      exact g_ireturn F hR dL_burns_46 (pI_i (by unfold sBurn sFelt; split <;> omega) rfl rfl)

set_option maxRecDepth 20000 in
theorem c_L_comes (l : Launch) (D : gD) (ad : gA) (x : gX) (y : gY) (i k h : Int) (hN : NOK x) (hp : PG x y) (hi : 0 ≤ i ∧ i < x 10 0 0) (hk : 0 ≤ k ∧ k ≤ 5) (hh : 0 ≤ h ∧ h ≤ 30) : gC l D ad 0 yL_comes cL_comes 5 (some .boolean) [.ref (ad 41 (0)), .int (J (i)), .int (J (k)), .int (J (h))] x y (pB (sComes k (x 2 i 0) (x 3 i 0) h) (x) (y)) := by
  refine g_met RL rfl (by decide +kernel) [(0, .ref (ad 41 (0))), (1, .int (J (i))), (2, .int (J (k))), (3, .int (J (h)))] rfl (Nat.le_of_ble_eq_true rfl) (fun Θ F hR => ?_)
  have hm := hN.2.2.2 i hi.1 hi.2
  have hI := hN.1
  have h10 := hN.2.1
  have h15 := hN.2.2.1
  refine g_iload_n F dL_comes_0 rfl 2 rfl ?_
  refine g_iconst F dL_comes_1 (4) (by decide) ?_
  refine g_icmp_ne 7 F dL_comes_2 (by omega) (by decide) rfl (fun c_1 => ?_) (fun c_1 => ?_)
  · skip
    refine g_aload_n F dL_comes_7 rfl 0 rfl ?_
    refine g_bipush F dL_comes_8 (11) (by decide) ?_
    refine g_iload_n F dL_comes_10 rfl 1 rfl ?_
    refine g_iadd F dL_comes_11 ?_
    refine ga_41 F (by omega) dL_comes_12 ?_
    refine g_topi (b := x 2 i 0) (pg_g hp hi.1 hi.2) ?_
    refine g_if_eq 26 F dL_comes_13 (by omega) rfl (fun c_2 => ?_) (fun c_2 => ?_)
    · skip
      refine g_iconst F dL_comes_26 (1) (by decide) ?_
      refine g_goto F 31 dL_comes_27 rfl ?_
      refine g_istore F [(4, .int (J (1))), (0, .ref (ad 41 (0))), (1, .int (J (i))), (2, .int (J (k))), (3, .int (J (h)))] dL_comes_31 (by decide) rfl ?_
      refine g_iload F dL_comes_33 0 rfl ?_
      refine g_if_eq 73 F dL_comes_35 (by decide) rfl (fun c_3 => ?_) (fun c_3 => ?_)
      · skip
        refine g_iconst F dL_comes_73 (0) (by decide) ?_
        exact g_zreturn F hR dL_comes_74 (by omega) (pB_i (by split <;> omega) rfl rfl)
      · skip
        refine g_iload_n F dL_comes_38 rfl 4 rfl ?_
        refine g_iload_n F dL_comes_39 rfl 3 rfl ?_
        refine g_iconst F dL_comes_40 (2) (by decide) ?_
        refine g_icmp_eq 49 F dL_comes_41 (by omega) (by decide) rfl (fun c_4 => ?_) (fun c_4 => ?_)
        · skip
          refine g_bipush F dL_comes_49 (20) (by decide) ?_
          refine g_goto F 66 dL_comes_51 rfl ?_
          refine g_icmp_gt 73 F dL_comes_66 (by omega) (by decide) rfl (fun c_5 => ?_) (fun c_5 => ?_)
          · skip
            refine g_iconst F dL_comes_73 (0) (by decide) ?_
            exact g_zreturn F hR dL_comes_74 (by omega) (pB_i (by split <;> omega) rfl rfl)
          · skip
            refine g_iconst F dL_comes_69 (1) (by decide) ?_
            refine g_goto F 74 dL_comes_70 rfl ?_
            exact g_zreturn F hR dL_comes_74 (by omega) (pB_i (by split <;> omega) rfl rfl)
        · skip
          refine g_iload_n F dL_comes_44 rfl 3 rfl ?_
          refine g_iconst F dL_comes_45 (5) (by decide) ?_
          refine g_icmp_ne 54 F dL_comes_46 (by omega) (by decide) rfl (fun c_6 => ?_) (fun c_6 => ?_)
          · skip
            refine g_iload_n F dL_comes_54 rfl 3 rfl ?_
            refine g_iconst F dL_comes_55 (3) (by decide) ?_
            refine g_icmp_ne 64 F dL_comes_56 (by omega) (by decide) rfl (fun c_7 => ?_) (fun c_7 => ?_)
            · skip
              refine g_bipush F dL_comes_64 (30) (by decide) ?_
              refine g_icmp_gt 73 F dL_comes_66 (by omega) (by decide) rfl (fun c_8 => ?_) (fun c_8 => ?_)
              · skip
                refine g_iconst F dL_comes_73 (0) (by decide) ?_
                exact g_zreturn F hR dL_comes_74 (by omega) (pB_i (by split <;> omega) rfl rfl)
              · skip
                refine g_iconst F dL_comes_69 (1) (by decide) ?_
                refine g_goto F 74 dL_comes_70 rfl ?_
                exact g_zreturn F hR dL_comes_74 (by omega) (pB_i (by split <;> omega) rfl rfl)
            · skip
              refine g_bipush F dL_comes_59 (10) (by decide) ?_
              refine g_goto F 66 dL_comes_61 rfl ?_
              refine g_icmp_gt 73 F dL_comes_66 (by omega) (by decide) rfl (fun c_9 => ?_) (fun c_9 => ?_)
              · skip
                refine g_iconst F dL_comes_73 (0) (by decide) ?_
                exact g_zreturn F hR dL_comes_74 (by omega) (pB_i (by split <;> omega) rfl rfl)
              · skip
                refine g_iconst F dL_comes_69 (1) (by decide) ?_
                refine g_goto F 74 dL_comes_70 rfl ?_
                exact g_zreturn F hR dL_comes_74 (by omega) (pB_i (by split <;> omega) rfl rfl)
          · skip
            refine g_bipush F dL_comes_49 (20) (by decide) ?_
            refine g_goto F 66 dL_comes_51 rfl ?_
            refine g_icmp_gt 73 F dL_comes_66 (by omega) (by decide) rfl (fun c_10 => ?_) (fun c_10 => ?_)
            · skip
              refine g_iconst F dL_comes_73 (0) (by decide) ?_
              exact g_zreturn F hR dL_comes_74 (by omega) (pB_i (by split <;> omega) rfl rfl)
            · skip
              refine g_iconst F dL_comes_69 (1) (by decide) ?_
              refine g_goto F 74 dL_comes_70 rfl ?_
              exact g_zreturn F hR dL_comes_74 (by omega) (pB_i (by split <;> omega) rfl rfl)
    · skip
      refine g_aload_n F dL_comes_16 rfl 0 rfl ?_
      refine g_bipush F dL_comes_17 (17) (by decide) ?_
      refine g_iload_n F dL_comes_19 rfl 1 rfl ?_
      refine g_iadd F dL_comes_20 ?_
      refine ga_41 F (by omega) dL_comes_21 ?_
      refine g_topi (b := x 3 i 0) (pg_b hp hi.1 hi.2) ?_
      refine g_iconst F dL_comes_22 (3) (by decide) ?_
      refine g_icmp_ge 30 F dL_comes_23 (by omega) (by decide) rfl (fun c_11 => ?_) (fun c_11 => ?_)
      · skip
        refine g_iconst F dL_comes_30 (0) (by decide) ?_
        refine g_istore F [(4, .int (J (0))), (0, .ref (ad 41 (0))), (1, .int (J (i))), (2, .int (J (k))), (3, .int (J (h)))] dL_comes_31 (by decide) rfl ?_
        refine g_iload F dL_comes_33 0 rfl ?_
        refine g_if_eq 73 F dL_comes_35 (by decide) rfl (fun c_12 => ?_) (fun c_12 => ?_)
        · skip
          refine g_iconst F dL_comes_73 (0) (by decide) ?_
          exact g_zreturn F hR dL_comes_74 (by omega) (pB_i (by split <;> omega) rfl rfl)
        · skip
          refine g_iload_n F dL_comes_38 rfl 4 rfl ?_
          refine g_iload_n F dL_comes_39 rfl 3 rfl ?_
          refine g_iconst F dL_comes_40 (2) (by decide) ?_
          refine g_icmp_eq 49 F dL_comes_41 (by omega) (by decide) rfl (fun c_13 => ?_) (fun c_13 => ?_)
          · skip
            refine g_bipush F dL_comes_49 (20) (by decide) ?_
            refine g_goto F 66 dL_comes_51 rfl ?_
            refine g_icmp_gt 73 F dL_comes_66 (by omega) (by decide) rfl (fun c_14 => ?_) (fun c_14 => ?_)
            · skip
              refine g_iconst F dL_comes_73 (0) (by decide) ?_
              exact g_zreturn F hR dL_comes_74 (by omega) (pB_i (by split <;> omega) rfl rfl)
            · skip
              refine g_iconst F dL_comes_69 (1) (by decide) ?_
              refine g_goto F 74 dL_comes_70 rfl ?_
              exact g_zreturn F hR dL_comes_74 (by omega) (pB_i (by split <;> omega) rfl rfl)
          · skip
            refine g_iload_n F dL_comes_44 rfl 3 rfl ?_
            refine g_iconst F dL_comes_45 (5) (by decide) ?_
            refine g_icmp_ne 54 F dL_comes_46 (by omega) (by decide) rfl (fun c_15 => ?_) (fun c_15 => ?_)
            · skip
              refine g_iload_n F dL_comes_54 rfl 3 rfl ?_
              refine g_iconst F dL_comes_55 (3) (by decide) ?_
              refine g_icmp_ne 64 F dL_comes_56 (by omega) (by decide) rfl (fun c_16 => ?_) (fun c_16 => ?_)
              · skip
                refine g_bipush F dL_comes_64 (30) (by decide) ?_
                refine g_icmp_gt 73 F dL_comes_66 (by omega) (by decide) rfl (fun c_17 => ?_) (fun c_17 => ?_)
                · skip
                  refine g_iconst F dL_comes_73 (0) (by decide) ?_
                  exact g_zreturn F hR dL_comes_74 (by omega) (pB_i (by split <;> omega) rfl rfl)
                · skip
                  refine g_iconst F dL_comes_69 (1) (by decide) ?_
                  refine g_goto F 74 dL_comes_70 rfl ?_
                  exact g_zreturn F hR dL_comes_74 (by omega) (pB_i (by split <;> omega) rfl rfl)
              · skip
                refine g_bipush F dL_comes_59 (10) (by decide) ?_
                refine g_goto F 66 dL_comes_61 rfl ?_
                refine g_icmp_gt 73 F dL_comes_66 (by omega) (by decide) rfl (fun c_18 => ?_) (fun c_18 => ?_)
                · skip
                  refine g_iconst F dL_comes_73 (0) (by decide) ?_
                  exact g_zreturn F hR dL_comes_74 (by omega) (pB_i (by split <;> omega) rfl rfl)
                · skip
                  refine g_iconst F dL_comes_69 (1) (by decide) ?_
                  refine g_goto F 74 dL_comes_70 rfl ?_
                  exact g_zreturn F hR dL_comes_74 (by omega) (pB_i (by split <;> omega) rfl rfl)
            · skip
              refine g_bipush F dL_comes_49 (20) (by decide) ?_
              refine g_goto F 66 dL_comes_51 rfl ?_
              refine g_icmp_gt 73 F dL_comes_66 (by omega) (by decide) rfl (fun c_19 => ?_) (fun c_19 => ?_)
              · skip
                refine g_iconst F dL_comes_73 (0) (by decide) ?_
                exact g_zreturn F hR dL_comes_74 (by omega) (pB_i (by split <;> omega) rfl rfl)
              · skip
                refine g_iconst F dL_comes_69 (1) (by decide) ?_
                refine g_goto F 74 dL_comes_70 rfl ?_
                exact g_zreturn F hR dL_comes_74 (by omega) (pB_i (by split <;> omega) rfl rfl)
      · skip
        refine g_iconst F dL_comes_26 (1) (by decide) ?_
        refine g_goto F 31 dL_comes_27 rfl ?_
        refine g_istore F [(4, .int (J (1))), (0, .ref (ad 41 (0))), (1, .int (J (i))), (2, .int (J (k))), (3, .int (J (h)))] dL_comes_31 (by decide) rfl ?_
        refine g_iload F dL_comes_33 0 rfl ?_
        refine g_if_eq 73 F dL_comes_35 (by decide) rfl (fun c_20 => ?_) (fun c_20 => ?_)
        · skip
          refine g_iconst F dL_comes_73 (0) (by decide) ?_
          exact g_zreturn F hR dL_comes_74 (by omega) (pB_i (by split <;> omega) rfl rfl)
        · skip
          refine g_iload_n F dL_comes_38 rfl 4 rfl ?_
          refine g_iload_n F dL_comes_39 rfl 3 rfl ?_
          refine g_iconst F dL_comes_40 (2) (by decide) ?_
          refine g_icmp_eq 49 F dL_comes_41 (by omega) (by decide) rfl (fun c_21 => ?_) (fun c_21 => ?_)
          · skip
            refine g_bipush F dL_comes_49 (20) (by decide) ?_
            refine g_goto F 66 dL_comes_51 rfl ?_
            refine g_icmp_gt 73 F dL_comes_66 (by omega) (by decide) rfl (fun c_22 => ?_) (fun c_22 => ?_)
            · skip
              refine g_iconst F dL_comes_73 (0) (by decide) ?_
              exact g_zreturn F hR dL_comes_74 (by omega) (pB_i (by split <;> omega) rfl rfl)
            · skip
              refine g_iconst F dL_comes_69 (1) (by decide) ?_
              refine g_goto F 74 dL_comes_70 rfl ?_
              exact g_zreturn F hR dL_comes_74 (by omega) (pB_i (by split <;> omega) rfl rfl)
          · skip
            refine g_iload_n F dL_comes_44 rfl 3 rfl ?_
            refine g_iconst F dL_comes_45 (5) (by decide) ?_
            refine g_icmp_ne 54 F dL_comes_46 (by omega) (by decide) rfl (fun c_23 => ?_) (fun c_23 => ?_)
            · skip
              refine g_iload_n F dL_comes_54 rfl 3 rfl ?_
              refine g_iconst F dL_comes_55 (3) (by decide) ?_
              refine g_icmp_ne 64 F dL_comes_56 (by omega) (by decide) rfl (fun c_24 => ?_) (fun c_24 => ?_)
              · skip
                refine g_bipush F dL_comes_64 (30) (by decide) ?_
                refine g_icmp_gt 73 F dL_comes_66 (by omega) (by decide) rfl (fun c_25 => ?_) (fun c_25 => ?_)
                · skip
                  refine g_iconst F dL_comes_73 (0) (by decide) ?_
                  exact g_zreturn F hR dL_comes_74 (by omega) (pB_i (by split <;> omega) rfl rfl)
                · skip
                  refine g_iconst F dL_comes_69 (1) (by decide) ?_
                  refine g_goto F 74 dL_comes_70 rfl ?_
                  exact g_zreturn F hR dL_comes_74 (by omega) (pB_i (by split <;> omega) rfl rfl)
              · skip
                refine g_bipush F dL_comes_59 (10) (by decide) ?_
                refine g_goto F 66 dL_comes_61 rfl ?_
                refine g_icmp_gt 73 F dL_comes_66 (by omega) (by decide) rfl (fun c_26 => ?_) (fun c_26 => ?_)
                · skip
                  refine g_iconst F dL_comes_73 (0) (by decide) ?_
                  exact g_zreturn F hR dL_comes_74 (by omega) (pB_i (by split <;> omega) rfl rfl)
                · skip
                  refine g_iconst F dL_comes_69 (1) (by decide) ?_
                  refine g_goto F 74 dL_comes_70 rfl ?_
                  exact g_zreturn F hR dL_comes_74 (by omega) (pB_i (by split <;> omega) rfl rfl)
            · skip
              refine g_bipush F dL_comes_49 (20) (by decide) ?_
              refine g_goto F 66 dL_comes_51 rfl ?_
              refine g_icmp_gt 73 F dL_comes_66 (by omega) (by decide) rfl (fun c_27 => ?_) (fun c_27 => ?_)
              · skip
                refine g_iconst F dL_comes_73 (0) (by decide) ?_
                exact g_zreturn F hR dL_comes_74 (by omega) (pB_i (by split <;> omega) rfl rfl)
              · skip
                refine g_iconst F dL_comes_69 (1) (by decide) ?_
                refine g_goto F 74 dL_comes_70 rfl ?_
                exact g_zreturn F hR dL_comes_74 (by omega) (pB_i (by split <;> omega) rfl rfl)
  · skip
    refine g_iconst F dL_comes_5 (1) (by decide) ?_
    exact g_zreturn F hR dL_comes_6 (by omega) (pB_i (by split <;> omega) rfl rfl)

set_option maxRecDepth 20000 in
theorem c_L_tells (l : Launch) (D : gD) (ad : gA) (x : gX) (y : gY) (i k d h : Int) (hN : NOK x) (hp : PG x y) (hq : PV x y) (hi : 0 ≤ i ∧ i < x 10 0 0) (hk : 0 ≤ k ∧ k ≤ 5) (hd : 0 ≤ d ∧ d ≤ 9) (hh : 0 ≤ h ∧ h ≤ 30) : gC l D ad 2 yL_tells cL_tells 6 (some .int) [.ref (ad 41 (0)), .ref (ad 42 (0)), .int (J (i)), .int (J (k)), .int (J (d)), .int (J (h))] x y (pI (vKH x i k d h) (x) (y)) := by
  refine g_met RL rfl (by decide +kernel) [(0, .ref (ad 41 (0))), (1, .ref (ad 42 (0))), (2, .int (J (i))), (3, .int (J (k))), (4, .int (J (d))), (5, .int (J (h)))] rfl (Nat.le_of_ble_eq_true rfl) (fun Θ F hR => ?_)
  have hm := hN.2.2.2 i hi.1 hi.2
  have hI := hN.1
  have h10 := hN.2.1
  have h15 := hN.2.2.1
  have r1 := sBurn_r (k := k) (b := x 3 i 0) hI.1 hI.2.1.1 hd (h := h) (by omega)
  refine g_aload_n F dL_tells_0 rfl 0 rfl ?_
  refine g_iload_n F dL_tells_1 rfl 2 rfl ?_
  refine g_iload_n F dL_tells_2 rfl 3 rfl ?_
  refine g_iload F dL_tells_3 5 rfl ?_
  refine g_callS 4 F (As := [.ref (ad 41 (0)), .int (J (i)), .int (J (k)), .int (J (h))]) (st := []) (c_L_comes l D ad x y (i) (k) (h) (hN) (by omega) (by omega) (by omega) (by omega)) rfl mk_L_45 ki_L_comes kc_L_comes (by decide +kernel) rfl (by decide) dL_tells_5 rfl (Nat.le_of_ble_eq_true rfl) (pB_k ?_)
  refine g_ifb_ne 13 F dL_tells_8 rfl (fun c_1 => ?_) (fun c_1 => ?_)
  · skip
    refine g_aload_n F dL_tells_13 rfl 0 rfl ?_
    refine g_iload_n F dL_tells_14 rfl 2 rfl ?_
    refine g_iload_n F dL_tells_15 rfl 3 rfl ?_
    refine g_iload F dL_tells_16 4 rfl ?_
    refine g_iload F dL_tells_18 5 rfl ?_
    refine g_callS 5 F (As := [.ref (ad 41 (0)), .int (J (i)), .int (J (k)), .int (J (d)), .int (J (h))]) (st := []) (c_L_burns l D ad x y (i) (k) (d) (h) (hN) (by omega) (by omega) (by omega) (by omega) (by omega)) rfl mk_L_49 ki_L_burns kc_L_burns (by decide +kernel) rfl (by decide) dL_tells_20 rfl (Nat.le_of_ble_eq_true rfl) (pI_k ?_)
    refine g_aload_n F dL_tells_23 rfl 0 rfl ?_
    refine g_iconst F dL_tells_24 (3) (by decide) ?_
    refine ga_41 F (by decide) dL_tells_25 ?_
    refine g_topi (b := x 13 0 0) (hp.2.2.2.1) ?_
    refine g_aload_n F dL_tells_26 rfl 1 rfl ?_
    refine g_iconst F dL_tells_27 (4) (by decide) ?_
    refine g_iload_n F dL_tells_28 rfl 2 rfl ?_
    refine g_iadd F dL_tells_29 ?_
    refine ga_42 F (by omega) dL_tells_30 ?_
    refine g_topi (b := x 5 i 0) (pv_s hq hi.1 hi.2) ?_
    refine g_iadd F dL_tells_31 ?_
    refine g_aload_n F dL_tells_32 rfl 1 rfl ?_
    refine g_iconst F dL_tells_33 (4) (by decide) ?_
    refine g_iload_n F dL_tells_34 rfl 2 rfl ?_
    refine g_iadd F dL_tells_35 ?_
    refine ga_42 F (by omega) dL_tells_36 ?_
    refine g_topi (b := x 5 i 0) (pv_s hq hi.1 hi.2) ?_
    refine g_iadd F dL_tells_37 ?_
    refine g_icmp_le 45 F dL_tells_38 (by omega) (by omega) rfl (fun c_2 => ?_) (fun c_2 => ?_)
    · skip
      refine g_iconst F dL_tells_45 (1) (by decide) ?_
      exact g_ireturn F hR dL_tells_46 (pI_i (by unfold vKH; (repeat' split) <;> first | rfl | omega | contradiction) rfl rfl)
    · skip
      refine g_iconst F dL_tells_41 (0) (by decide) ?_
      refine g_goto F 46 dL_tells_42 rfl ?_
      exact g_ireturn F hR dL_tells_46 (pI_i (by unfold vKH; (repeat' split) <;> first | rfl | omega | contradiction) rfl rfl)
  · skip
    refine g_iconst F dL_tells_11 (2) (by decide) ?_
    exact g_ireturn F hR dL_tells_12 (pI_i (by unfold vKH; (repeat' split) <;> first | rfl | omega | contradiction) rfl rfl)

set_option maxRecDepth 20000 in
theorem c_L_told (l : Launch) (D : gD) (ad : gA) (x : gX) (y : gY) (i h : Int) (hN : NOK x) (hp : PG x y) (hq : PV x y) (hi : 0 ≤ i ∧ i < x 10 0 0) (hh : 0 ≤ h ∧ h ≤ 30) : gC l D ad 3 yL_told cL_told 4 (some .int) [.ref (ad 41 (0)), .ref (ad 42 (0)), .int (J (i)), .int (J (h))] x y (pI (vU x i h) (x) (y)) := by
  refine g_met RL rfl (by decide +kernel) [(0, .ref (ad 41 (0))), (1, .ref (ad 42 (0))), (2, .int (J (i))), (3, .int (J (h)))] rfl (Nat.le_of_ble_eq_true rfl) (fun Θ F hR => ?_)
  have hm := hN.2.2.2 i hi.1 hi.2
  have hI := hN.1
  have h10 := hN.2.1
  have h15 := hN.2.2.1
  refine g_aload_n F dL_told_0 rfl 0 rfl ?_
  refine g_aload_n F dL_told_1 rfl 1 rfl ?_
  refine g_iload_n F dL_told_2 rfl 2 rfl ?_
  refine g_aload_n F dL_told_3 rfl 0 rfl ?_
  refine g_iconst F dL_told_4 (5) (by decide) ?_
  refine g_iload_n F dL_told_5 rfl 2 rfl ?_
  refine g_iadd F dL_told_6 ?_
  refine ga_41 F (by omega) dL_told_7 ?_
  refine g_topi (b := x 1 i 0) (pg_k hp hi.1 hi.2) ?_
  refine g_aload_n F dL_told_8 rfl 0 rfl ?_
  refine g_bipush F dL_told_9 (23) (by decide) ?_
  refine g_iload_n F dL_told_11 rfl 2 rfl ?_
  refine g_iadd F dL_told_12 ?_
  refine ga_41 F (by omega) dL_told_13 ?_
  refine g_topi (b := x 4 i 0) (pg_h hp hi.1 hi.2) ?_
  refine g_iload_n F dL_told_14 rfl 3 rfl ?_
  refine g_callS 6 F (As := [.ref (ad 41 (0)), .ref (ad 42 (0)), .int (J (i)), .int (J (x 1 i 0)), .int (J (x 4 i 0)), .int (J (h))]) (st := []) (c_L_tells l D ad x y (i) (x 1 i 0) (x 4 i 0) (h) (hN) (by omega) (by omega) (by omega) (by omega) (by omega) (by omega)) rfl mk_L_53 ki_L_tells kc_L_tells (by decide +kernel) rfl (by decide) dL_told_15 rfl (Nat.le_of_ble_eq_true rfl) (pI_k ?_)
  exact g_ireturn F hR dL_told_18 (pI_i (by rfl) rfl rfl)

set_option maxRecDepth 20000 in
theorem c_L_wrong (l : Launch) (D : gD) (ad : gA) (x : gX) (y : gY) (i t : Int) (hN : NOK x) (hp : PG x y) (hi : 0 ≤ i ∧ i < x 10 0 0) (ht : -9 ≤ t ∧ t ≤ 2) : gC l D ad 0 yL_wrong cL_wrong 3 (some .int) [.ref (ad 41 (0)), .int (J (i)), .int (J (t))] x y (pI (if sWr (x 2 i 0) t then 1 else 0) (x) (y)) := by
  refine g_met RL rfl (by decide +kernel) [(0, .ref (ad 41 (0))), (1, .int (J (i))), (2, .int (J (t)))] rfl (Nat.le_of_ble_eq_true rfl) (fun Θ F hR => ?_)
  have hm := hN.2.2.2 i hi.1 hi.2
  have hI := hN.1
  have h10 := hN.2.1
  have h15 := hN.2.2.1
  refine g_aload_n F dL_wrong_0 rfl 0 rfl ?_
  refine g_bipush F dL_wrong_1 (11) (by decide) ?_
  refine g_iload_n F dL_wrong_3 rfl 1 rfl ?_
  refine g_iadd F dL_wrong_4 ?_
  refine ga_41 F (by omega) dL_wrong_5 ?_
  refine g_topi (b := x 2 i 0) (pg_g hp hi.1 hi.2) ?_
  refine g_iload_n F dL_wrong_6 rfl 2 rfl ?_
  refine g_iconst F dL_wrong_7 (1) (by decide) ?_
  refine g_icmp_ne 15 F dL_wrong_8 (by omega) (by decide) rfl (fun c_1 => ?_) (fun c_1 => ?_)
  · skip
    refine g_iconst F dL_wrong_15 (0) (by decide) ?_
    refine g_icmp_ne 23 F dL_wrong_16 (by omega) (by decide) rfl (fun c_2 => ?_) (fun c_2 => ?_)
    · skip
      refine g_iconst F dL_wrong_23 (0) (by decide) ?_
      exact g_ireturn F hR dL_wrong_24 (pI_i (by split <;> omega) rfl rfl)
    · skip
      refine g_iconst F dL_wrong_19 (1) (by decide) ?_
      refine g_goto F 24 dL_wrong_20 rfl ?_
      exact g_ireturn F hR dL_wrong_24 (pI_i (by split <;> omega) rfl rfl)
  · skip
    refine g_iconst F dL_wrong_11 (1) (by decide) ?_
    refine g_goto F 16 dL_wrong_12 rfl ?_
    refine g_icmp_ne 23 F dL_wrong_16 (by omega) (by decide) rfl (fun c_3 => ?_) (fun c_3 => ?_)
    · skip
      refine g_iconst F dL_wrong_23 (0) (by decide) ?_
      exact g_ireturn F hR dL_wrong_24 (pI_i (by split <;> omega) rfl rfl)
    · skip
      refine g_iconst F dL_wrong_19 (1) (by decide) ?_
      refine g_goto F 24 dL_wrong_20 rfl ?_
      exact g_ireturn F hR dL_wrong_24 (pI_i (by split <;> omega) rfl rfl)

set_option maxRecDepth 20000 in
theorem c_L_cut (l : Launch) (D : gD) (ad : gA) (x : gX) (y : gY) (h : Int) (hh : -1000 ≤ h ∧ h ≤ 1000) : gC l D ad 0 yL_cut cL_cut 1 (some .int) [.int (J (h))] x y (pI (kH h) (x) (y)) := by
  refine g_met RL rfl (by decide +kernel) [(0, .int (J (h)))] rfl (Nat.le_of_ble_eq_true rfl) (fun Θ F hR => ?_)
  refine g_iload_n F dL_cut_0 rfl 0 rfl ?_
  refine g_bipush F dL_cut_1 (30) (by decide) ?_
  refine g_icmp_le 11 F dL_cut_3 (by omega) (by decide) rfl (fun c_1 => ?_) (fun c_1 => ?_)
  · skip
    refine g_iload_n F dL_cut_11 rfl 0 rfl ?_
    refine g_if_ge 19 F dL_cut_12 (by omega) rfl (fun c_2 => ?_) (fun c_2 => ?_)
    · skip
      refine g_iload_n F dL_cut_19 rfl 0 rfl ?_
      exact g_ireturn F hR dL_cut_20 (pI_i (by unfold kH; omega) rfl rfl)
    · skip
      refine g_iconst F dL_cut_15 (0) (by decide) ?_
      refine g_goto F 20 dL_cut_16 rfl ?_
      exact g_ireturn F hR dL_cut_20 (pI_i (by unfold kH; omega) rfl rfl)
  · skip
    refine g_bipush F dL_cut_6 (30) (by decide) ?_
    refine g_goto F 20 dL_cut_8 rfl ?_
    exact g_ireturn F hR dL_cut_20 (pI_i (by unfold kH; omega) rfl rfl)

set_option maxRecDepth 20000 in
theorem c_L_trial (l : Launch) (D : gD) (ad : gA) (x : gX) (y : gY) (i : Int) (hN : NOK x) (hp : PG x y) (hq : PV x y) (hi : 0 ≤ i ∧ i < x 10 0 0) (h6 : x 6 i 0 = -9) (h7 : x 7 i 0 = 0) : gC l D ad 4 yL_trial cL_trial 4 (some .int) [.ref (ad 41 (0)), .ref (ad 42 (0)), .int (J (i))] x y (pH (.int (J (vU x i (x 15 0 0)))) (x) (fun w9 => PV (perM x 2 i) w9 ∧ ∀ k : Int, k ≠ 42 → w9 k = y k)) := by
  refine g_met RL rfl (by decide +kernel) [(0, .ref (ad 41 (0))), (1, .ref (ad 42 (0))), (2, .int (J (i)))] rfl (Nat.le_of_ble_eq_true rfl) (fun Θ F hR => ?_)
  have hm := hN.2.2.2 i hi.1 hi.2
  have hI := hN.1
  have h10 := hN.2.1
  have h15 := hN.2.2.1
  have rv := vU_r x i (x 15 0 0)
  have rc := tcU_r h10.1
  have rw := twU_r hN
  have rt := trU_r hN
  refine g_aload_n F dL_trial_0 rfl 0 rfl ?_
  refine g_aload_n F dL_trial_1 rfl 1 rfl ?_
  refine g_iload_n F dL_trial_2 rfl 2 rfl ?_
  refine g_aload_n F dL_trial_3 rfl 1 rfl ?_
  refine g_iconst F dL_trial_4 (0) (by decide) ?_
  refine ga_42 F (by decide) dL_trial_5 ?_
  refine g_topi (b := x 15 0 0) (hq.1) ?_
  refine g_callS 4 F (As := [.ref (ad 41 (0)), .ref (ad 42 (0)), .int (J (i)), .int (J (x 15 0 0))]) (st := []) (c_L_told l D ad x y (i) (x 15 0 0) (hN) (hp) (hq) (by omega) (by omega)) rfl mk_L_57 ki_L_told kc_L_told (by decide +kernel) rfl (by decide) dL_trial_6 rfl (Nat.le_of_ble_eq_true rfl) (pI_k ?_)
  refine g_istore_n F [(3, .int (J (vU x (i) (x 15 0 0)))), (0, .ref (ad 41 (0))), (1, .ref (ad 42 (0))), (2, .int (J (i)))] dL_trial_9 rfl (by decide) rfl ?_
  refine g_aload_n F dL_trial_10 rfl 2 rfl ?_
  refine g_iconst F dL_trial_11 (1) (by decide) ?_
  refine g_dup2 F dL_trial_12 rfl rfl ?_
  refine ga_42 F (by decide) dL_trial_13 ?_
  refine g_topi (b := trU x) (hq.2.1) ?_
  refine g_iconst F dL_trial_14 (1) (by decide) ?_
  refine g_iload_n F dL_trial_15 rfl 3 rfl ?_
  refine g_ishl F dL_trial_16 (p2 i) (J_shl ⟨by omega, by omega⟩) ?_
  refine g_ior F dL_trial_17 (bitsZ (fun q => x 6 q 0 ≠ -9 ∨ q = i) (x 10 0 0)) (bits_put hi.1 hi.2) ?_
  refine gs_42 F (by decide) dL_trial_18 ?_
  refine g_aload_n F dL_trial_19 rfl 2 rfl ?_
  refine g_iconst F dL_trial_20 (3) (by decide) ?_
  refine g_dup2 F dL_trial_21 rfl rfl ?_
  refine ga_42 F (by decide) dL_trial_22 ?_
  refine g_topi (b := y 42 (3)) (by simp [yU]) ?_
  refine g_topi (b := twU x) (hq.2.2.2.1) ?_
  refine g_aload_n F dL_trial_23 rfl 1 rfl ?_
  refine g_iload_n F dL_trial_24 rfl 3 rfl ?_
  refine g_iload_n F dL_trial_25 rfl 0 rfl ?_
  refine g_callS 3 F (As := [.ref (ad 41 (0)), .int (J (i)), .int (J (vU x (i) (x 15 0 0)))]) (st := [.int (J (twU x)), .int (J (3)), .ref (ad 42 (0))]) (c_L_wrong l D ad x (yU y 42 (1) (bitsZ (fun q => x 6 q 0 ≠ -9 ∨ q = i) (x 10 0 0))) (i) (vU x (i) (x 15 0 0)) (hN) (PG_y hp (yU_k (by decide))) (by omega) (by omega)) rfl mk_L_61 ki_L_wrong kc_L_wrong (by decide +kernel) rfl (by decide) dL_trial_26 rfl (Nat.le_of_ble_eq_true rfl) (pI_k ?_)
  refine g_iadd F dL_trial_29 ?_
  refine gs_42 F (by decide) dL_trial_30 ?_
  refine g_aload_n F dL_trial_31 rfl 2 rfl ?_
  refine g_bipush F dL_trial_32 (10) (by decide) ?_
  refine g_iload_n F dL_trial_34 rfl 3 rfl ?_
  refine g_iadd F dL_trial_35 ?_
  refine g_iload_n F dL_trial_36 rfl 0 rfl ?_
  refine gs_42 F (by omega) dL_trial_37 ?_
  refine g_aload_n F dL_trial_38 rfl 2 rfl ?_
  refine g_iconst F dL_trial_39 (2) (by decide) ?_
  refine g_dup2 F dL_trial_40 rfl rfl ?_
  refine ga_42 F (by decide) dL_trial_41 ?_
  refine g_topi (b := tcU x) (by rw [yU_j (by omega), yU_j (by decide), yU_j (by decide)]; exact hq.2.2.1) ?_
  refine g_iload_n F dL_trial_42 rfl 0 rfl ?_
  refine g_iconst F dL_trial_43 (1) (by decide) ?_
  refine g_icmp_ne 51 F dL_trial_44 (by omega) (by decide) rfl (fun c_1 => ?_) (fun c_1 => ?_)
  · skip
    refine g_iconst F dL_trial_51 (0) (by decide) ?_
    refine g_iadd F dL_trial_52 ?_
    refine gs_42 F (by decide) dL_trial_53 ?_
    refine g_aload_n F dL_trial_54 rfl 2 rfl ?_
    refine g_iconst F dL_trial_55 (0) (by decide) ?_
    refine g_aload_n F dL_trial_56 rfl 2 rfl ?_
    refine g_iconst F dL_trial_57 (0) (by decide) ?_
    refine ga_42 F (by decide) dL_trial_58 ?_
    refine g_topi (b := (yU (yU (yU y 42 (1) (bitsZ (fun q => x 6 q 0 ≠ -9 ∨ q = i) (x 10 0 0))) 42 (3) ((twU x) + (if sWr (x 2 (i) 0) (vU x (i) (x 15 0 0)) then 1 else 0))) 42 ((10) + (i)) (vU x (i) (x 15 0 0))) 42 (0)) (by simp [yU]) ?_
    refine g_topi (b := x 15 0 0) (by rw [yU_j (by omega), yU_j (by decide), yU_j (by decide)]; exact hq.1) ?_
    refine g_iload_n F dL_trial_59 rfl 0 rfl ?_
    refine g_iconst F dL_trial_60 (1) (by decide) ?_
    refine g_icmp_ne 77 F dL_trial_61 (by omega) (by decide) rfl (fun c_2 => ?_) (fun c_2 => ?_)
    · skip
      refine g_iconst F dL_trial_77 (0) (by decide) ?_
      refine g_iadd F dL_trial_78 ?_
      refine g_callS 1 F (As := [.int (J ((x 15 0 0) + (0)))]) (st := [.int (J (0)), .ref (ad 42 (0))]) (c_L_cut l D ad x (yU (yU (yU (yU y 42 (1) (bitsZ (fun q => x 6 q 0 ≠ -9 ∨ q = i) (x 10 0 0))) 42 (3) ((twU x) + (if sWr (x 2 (i) 0) (vU x (i) (x 15 0 0)) then 1 else 0))) 42 ((10) + (i)) (vU x (i) (x 15 0 0))) 42 (2) ((tcU x) + (0))) ((x 15 0 0) + (0)) (by omega)) rfl mk_L_64 ki_L_cut kc_L_cut (by decide +kernel) rfl (by decide) dL_trial_79 rfl (Nat.le_of_ble_eq_true rfl) (pI_k ?_)
      refine gs_42 F (by decide) dL_trial_82 ?_
      refine g_iload_n F dL_trial_83 rfl 0 rfl ?_
      have hPl : (fun (w9 : gY) => PV (perM x 2 i) w9 ∧ ∀ k : Int, k ≠ 42 → w9 k = y k) (yU (yU (yU (yU (yU y 42 (1) (bitsZ (fun q => x 6 q 0 ≠ -9 ∨ q = i) (x 10 0 0))) 42 (3) ((twU x) + (if sWr (x 2 (i) 0) (vU x (i) (x 15 0 0)) then 1 else 0))) 42 ((10) + (i)) (vU x (i) (x 15 0 0))) 42 (2) ((tcU x) + (0))) 42 (0) (kH ((x 15 0 0) + (0)))) := by
        refine ⟨PV_tri hi.1 hi.2 h6 h7 ?_ ?_ ?_ ?_ (fun q q0 q1 => ⟨?_, ?_⟩), fun k hk => ?_⟩
        · rw [yU_same]; unfold sBeh kH; (repeat' split) <;> omega
        · rw [yU_j (by decide), yU_j (by decide), yU_j (by omega), yU_j (by decide), yU_same]
        · rw [yU_j (by decide), yU_same]; split <;> omega
        · rw [yU_j (by decide), yU_j (by decide), yU_j (by omega), yU_same]
        · rw [yU_j (by omega), yU_j (by omega), yU_j (by omega), yU_j (by omega), yU_j (by omega)]; exact pv_s hq q0 q1
        · rw [yU_j (by omega), yU_j (by omega), yU_at]
          by_cases g : q = i
          · rw [if_pos (by omega), if_pos g]
          · rw [if_neg (by omega), if_neg g, yU_j (by omega), yU_j (by omega)]; exact pv_t hq q0 q1
        · rw [yU_k hk, yU_k hk, yU_k hk, yU_k hk, yU_k hk]
      exact g_ireturn F hR dL_trial_84 (pH_z (by rfl) (by exact hPl) rfl)
    · skip
      refine g_aload_n F dL_trial_64 rfl 2 rfl ?_
      refine g_iconst F dL_trial_65 (2) (by decide) ?_
      refine ga_42 F (by decide) dL_trial_66 ?_
      refine g_topi (b := (tcU x) + (0)) (by simp [yU]) ?_
      refine g_aload_n F dL_trial_67 rfl 1 rfl ?_
      refine g_iconst F dL_trial_68 (4) (by decide) ?_
      refine ga_41 F (by decide) dL_trial_69 ?_
      refine g_topi (b := y 41 (4)) (by simp [yU]) ?_
      refine g_topi (b := x 14 0 0) (hp.2.2.2.2.1) ?_
      refine g_icmp_lt 77 F dL_trial_70 (by omega) (by omega) rfl (fun c_3 => ?_) (fun c_3 => ?_)
      · skip
        refine g_iconst F dL_trial_77 (0) (by decide) ?_
        refine g_iadd F dL_trial_78 ?_
        refine g_callS 1 F (As := [.int (J ((x 15 0 0) + (0)))]) (st := [.int (J (0)), .ref (ad 42 (0))]) (c_L_cut l D ad x (yU (yU (yU (yU y 42 (1) (bitsZ (fun q => x 6 q 0 ≠ -9 ∨ q = i) (x 10 0 0))) 42 (3) ((twU x) + (if sWr (x 2 (i) 0) (vU x (i) (x 15 0 0)) then 1 else 0))) 42 ((10) + (i)) (vU x (i) (x 15 0 0))) 42 (2) ((tcU x) + (0))) ((x 15 0 0) + (0)) (by omega)) rfl mk_L_64 ki_L_cut kc_L_cut (by decide +kernel) rfl (by decide) dL_trial_79 rfl (Nat.le_of_ble_eq_true rfl) (pI_k ?_)
        refine gs_42 F (by decide) dL_trial_82 ?_
        refine g_iload_n F dL_trial_83 rfl 0 rfl ?_
        have hPl : (fun (w9 : gY) => PV (perM x 2 i) w9 ∧ ∀ k : Int, k ≠ 42 → w9 k = y k) (yU (yU (yU (yU (yU y 42 (1) (bitsZ (fun q => x 6 q 0 ≠ -9 ∨ q = i) (x 10 0 0))) 42 (3) ((twU x) + (if sWr (x 2 (i) 0) (vU x (i) (x 15 0 0)) then 1 else 0))) 42 ((10) + (i)) (vU x (i) (x 15 0 0))) 42 (2) ((tcU x) + (0))) 42 (0) (kH ((x 15 0 0) + (0)))) := by
          refine ⟨PV_tri hi.1 hi.2 h6 h7 ?_ ?_ ?_ ?_ (fun q q0 q1 => ⟨?_, ?_⟩), fun k hk => ?_⟩
          · rw [yU_same]; unfold sBeh kH; (repeat' split) <;> omega
          · rw [yU_j (by decide), yU_j (by decide), yU_j (by omega), yU_j (by decide), yU_same]
          · rw [yU_j (by decide), yU_same]; split <;> omega
          · rw [yU_j (by decide), yU_j (by decide), yU_j (by omega), yU_same]
          · rw [yU_j (by omega), yU_j (by omega), yU_j (by omega), yU_j (by omega), yU_j (by omega)]; exact pv_s hq q0 q1
          · rw [yU_j (by omega), yU_j (by omega), yU_at]
            by_cases g : q = i
            · rw [if_pos (by omega), if_pos g]
            · rw [if_neg (by omega), if_neg g, yU_j (by omega), yU_j (by omega)]; exact pv_t hq q0 q1
          · rw [yU_k hk, yU_k hk, yU_k hk, yU_k hk, yU_k hk]
        exact g_ireturn F hR dL_trial_84 (pH_z (by rfl) (by exact hPl) rfl)
      · skip
        refine g_iconst F dL_trial_73 (5) (by decide) ?_
        refine g_goto F 78 dL_trial_74 rfl ?_
        refine g_iadd F dL_trial_78 ?_
        refine g_callS 1 F (As := [.int (J ((x 15 0 0) + (5)))]) (st := [.int (J (0)), .ref (ad 42 (0))]) (c_L_cut l D ad x (yU (yU (yU (yU y 42 (1) (bitsZ (fun q => x 6 q 0 ≠ -9 ∨ q = i) (x 10 0 0))) 42 (3) ((twU x) + (if sWr (x 2 (i) 0) (vU x (i) (x 15 0 0)) then 1 else 0))) 42 ((10) + (i)) (vU x (i) (x 15 0 0))) 42 (2) ((tcU x) + (0))) ((x 15 0 0) + (5)) (by omega)) rfl mk_L_64 ki_L_cut kc_L_cut (by decide +kernel) rfl (by decide) dL_trial_79 rfl (Nat.le_of_ble_eq_true rfl) (pI_k ?_)
        refine gs_42 F (by decide) dL_trial_82 ?_
        refine g_iload_n F dL_trial_83 rfl 0 rfl ?_
        have hPl : (fun (w9 : gY) => PV (perM x 2 i) w9 ∧ ∀ k : Int, k ≠ 42 → w9 k = y k) (yU (yU (yU (yU (yU y 42 (1) (bitsZ (fun q => x 6 q 0 ≠ -9 ∨ q = i) (x 10 0 0))) 42 (3) ((twU x) + (if sWr (x 2 (i) 0) (vU x (i) (x 15 0 0)) then 1 else 0))) 42 ((10) + (i)) (vU x (i) (x 15 0 0))) 42 (2) ((tcU x) + (0))) 42 (0) (kH ((x 15 0 0) + (5)))) := by
          refine ⟨PV_tri hi.1 hi.2 h6 h7 ?_ ?_ ?_ ?_ (fun q q0 q1 => ⟨?_, ?_⟩), fun k hk => ?_⟩
          · rw [yU_same]; unfold sBeh kH; (repeat' split) <;> omega
          · rw [yU_j (by decide), yU_j (by decide), yU_j (by omega), yU_j (by decide), yU_same]
          · rw [yU_j (by decide), yU_same]; split <;> omega
          · rw [yU_j (by decide), yU_j (by decide), yU_j (by omega), yU_same]
          · rw [yU_j (by omega), yU_j (by omega), yU_j (by omega), yU_j (by omega), yU_j (by omega)]; exact pv_s hq q0 q1
          · rw [yU_j (by omega), yU_j (by omega), yU_at]
            by_cases g : q = i
            · rw [if_pos (by omega), if_pos g]
            · rw [if_neg (by omega), if_neg g, yU_j (by omega), yU_j (by omega)]; exact pv_t hq q0 q1
          · rw [yU_k hk, yU_k hk, yU_k hk, yU_k hk, yU_k hk]
        exact g_ireturn F hR dL_trial_84 (pH_z (by rfl) (by exact hPl) rfl)
  · skip
    refine g_iconst F dL_trial_47 (1) (by decide) ?_
    refine g_goto F 52 dL_trial_48 rfl ?_
    refine g_iadd F dL_trial_52 ?_
    refine gs_42 F (by decide) dL_trial_53 ?_
    refine g_aload_n F dL_trial_54 rfl 2 rfl ?_
    refine g_iconst F dL_trial_55 (0) (by decide) ?_
    refine g_aload_n F dL_trial_56 rfl 2 rfl ?_
    refine g_iconst F dL_trial_57 (0) (by decide) ?_
    refine ga_42 F (by decide) dL_trial_58 ?_
    refine g_topi (b := (yU (yU (yU y 42 (1) (bitsZ (fun q => x 6 q 0 ≠ -9 ∨ q = i) (x 10 0 0))) 42 (3) ((twU x) + (if sWr (x 2 (i) 0) (vU x (i) (x 15 0 0)) then 1 else 0))) 42 ((10) + (i)) (vU x (i) (x 15 0 0))) 42 (0)) (by simp [yU]) ?_
    refine g_topi (b := x 15 0 0) (by rw [yU_j (by omega), yU_j (by decide), yU_j (by decide)]; exact hq.1) ?_
    refine g_iload_n F dL_trial_59 rfl 0 rfl ?_
    refine g_iconst F dL_trial_60 (1) (by decide) ?_
    refine g_icmp_ne 77 F dL_trial_61 (by omega) (by decide) rfl (fun c_4 => ?_) (fun c_4 => ?_)
    · skip
      refine g_iconst F dL_trial_77 (0) (by decide) ?_
      refine g_iadd F dL_trial_78 ?_
      refine g_callS 1 F (As := [.int (J ((x 15 0 0) + (0)))]) (st := [.int (J (0)), .ref (ad 42 (0))]) (c_L_cut l D ad x (yU (yU (yU (yU y 42 (1) (bitsZ (fun q => x 6 q 0 ≠ -9 ∨ q = i) (x 10 0 0))) 42 (3) ((twU x) + (if sWr (x 2 (i) 0) (vU x (i) (x 15 0 0)) then 1 else 0))) 42 ((10) + (i)) (vU x (i) (x 15 0 0))) 42 (2) ((tcU x) + (1))) ((x 15 0 0) + (0)) (by omega)) rfl mk_L_64 ki_L_cut kc_L_cut (by decide +kernel) rfl (by decide) dL_trial_79 rfl (Nat.le_of_ble_eq_true rfl) (pI_k ?_)
      refine gs_42 F (by decide) dL_trial_82 ?_
      refine g_iload_n F dL_trial_83 rfl 0 rfl ?_
      have hPl : (fun (w9 : gY) => PV (perM x 2 i) w9 ∧ ∀ k : Int, k ≠ 42 → w9 k = y k) (yU (yU (yU (yU (yU y 42 (1) (bitsZ (fun q => x 6 q 0 ≠ -9 ∨ q = i) (x 10 0 0))) 42 (3) ((twU x) + (if sWr (x 2 (i) 0) (vU x (i) (x 15 0 0)) then 1 else 0))) 42 ((10) + (i)) (vU x (i) (x 15 0 0))) 42 (2) ((tcU x) + (1))) 42 (0) (kH ((x 15 0 0) + (0)))) := by
        refine ⟨PV_tri hi.1 hi.2 h6 h7 ?_ ?_ ?_ ?_ (fun q q0 q1 => ⟨?_, ?_⟩), fun k hk => ?_⟩
        · rw [yU_same]; unfold sBeh kH; (repeat' split) <;> omega
        · rw [yU_j (by decide), yU_j (by decide), yU_j (by omega), yU_j (by decide), yU_same]
        · rw [yU_j (by decide), yU_same]; split <;> omega
        · rw [yU_j (by decide), yU_j (by decide), yU_j (by omega), yU_same]
        · rw [yU_j (by omega), yU_j (by omega), yU_j (by omega), yU_j (by omega), yU_j (by omega)]; exact pv_s hq q0 q1
        · rw [yU_j (by omega), yU_j (by omega), yU_at]
          by_cases g : q = i
          · rw [if_pos (by omega), if_pos g]
          · rw [if_neg (by omega), if_neg g, yU_j (by omega), yU_j (by omega)]; exact pv_t hq q0 q1
        · rw [yU_k hk, yU_k hk, yU_k hk, yU_k hk, yU_k hk]
      exact g_ireturn F hR dL_trial_84 (pH_z (by rfl) (by exact hPl) rfl)
    · skip
      refine g_aload_n F dL_trial_64 rfl 2 rfl ?_
      refine g_iconst F dL_trial_65 (2) (by decide) ?_
      refine ga_42 F (by decide) dL_trial_66 ?_
      refine g_topi (b := (tcU x) + (1)) (by simp [yU]) ?_
      refine g_aload_n F dL_trial_67 rfl 1 rfl ?_
      refine g_iconst F dL_trial_68 (4) (by decide) ?_
      refine ga_41 F (by decide) dL_trial_69 ?_
      refine g_topi (b := y 41 (4)) (by simp [yU]) ?_
      refine g_topi (b := x 14 0 0) (hp.2.2.2.2.1) ?_
      refine g_icmp_lt 77 F dL_trial_70 (by omega) (by omega) rfl (fun c_5 => ?_) (fun c_5 => ?_)
      · skip
        refine g_iconst F dL_trial_77 (0) (by decide) ?_
        refine g_iadd F dL_trial_78 ?_
        refine g_callS 1 F (As := [.int (J ((x 15 0 0) + (0)))]) (st := [.int (J (0)), .ref (ad 42 (0))]) (c_L_cut l D ad x (yU (yU (yU (yU y 42 (1) (bitsZ (fun q => x 6 q 0 ≠ -9 ∨ q = i) (x 10 0 0))) 42 (3) ((twU x) + (if sWr (x 2 (i) 0) (vU x (i) (x 15 0 0)) then 1 else 0))) 42 ((10) + (i)) (vU x (i) (x 15 0 0))) 42 (2) ((tcU x) + (1))) ((x 15 0 0) + (0)) (by omega)) rfl mk_L_64 ki_L_cut kc_L_cut (by decide +kernel) rfl (by decide) dL_trial_79 rfl (Nat.le_of_ble_eq_true rfl) (pI_k ?_)
        refine gs_42 F (by decide) dL_trial_82 ?_
        refine g_iload_n F dL_trial_83 rfl 0 rfl ?_
        have hPl : (fun (w9 : gY) => PV (perM x 2 i) w9 ∧ ∀ k : Int, k ≠ 42 → w9 k = y k) (yU (yU (yU (yU (yU y 42 (1) (bitsZ (fun q => x 6 q 0 ≠ -9 ∨ q = i) (x 10 0 0))) 42 (3) ((twU x) + (if sWr (x 2 (i) 0) (vU x (i) (x 15 0 0)) then 1 else 0))) 42 ((10) + (i)) (vU x (i) (x 15 0 0))) 42 (2) ((tcU x) + (1))) 42 (0) (kH ((x 15 0 0) + (0)))) := by
          refine ⟨PV_tri hi.1 hi.2 h6 h7 ?_ ?_ ?_ ?_ (fun q q0 q1 => ⟨?_, ?_⟩), fun k hk => ?_⟩
          · rw [yU_same]; unfold sBeh kH; (repeat' split) <;> omega
          · rw [yU_j (by decide), yU_j (by decide), yU_j (by omega), yU_j (by decide), yU_same]
          · rw [yU_j (by decide), yU_same]; split <;> omega
          · rw [yU_j (by decide), yU_j (by decide), yU_j (by omega), yU_same]
          · rw [yU_j (by omega), yU_j (by omega), yU_j (by omega), yU_j (by omega), yU_j (by omega)]; exact pv_s hq q0 q1
          · rw [yU_j (by omega), yU_j (by omega), yU_at]
            by_cases g : q = i
            · rw [if_pos (by omega), if_pos g]
            · rw [if_neg (by omega), if_neg g, yU_j (by omega), yU_j (by omega)]; exact pv_t hq q0 q1
          · rw [yU_k hk, yU_k hk, yU_k hk, yU_k hk, yU_k hk]
        exact g_ireturn F hR dL_trial_84 (pH_z (by rfl) (by exact hPl) rfl)
      · skip
        refine g_iconst F dL_trial_73 (5) (by decide) ?_
        refine g_goto F 78 dL_trial_74 rfl ?_
        refine g_iadd F dL_trial_78 ?_
        refine g_callS 1 F (As := [.int (J ((x 15 0 0) + (5)))]) (st := [.int (J (0)), .ref (ad 42 (0))]) (c_L_cut l D ad x (yU (yU (yU (yU y 42 (1) (bitsZ (fun q => x 6 q 0 ≠ -9 ∨ q = i) (x 10 0 0))) 42 (3) ((twU x) + (if sWr (x 2 (i) 0) (vU x (i) (x 15 0 0)) then 1 else 0))) 42 ((10) + (i)) (vU x (i) (x 15 0 0))) 42 (2) ((tcU x) + (1))) ((x 15 0 0) + (5)) (by omega)) rfl mk_L_64 ki_L_cut kc_L_cut (by decide +kernel) rfl (by decide) dL_trial_79 rfl (Nat.le_of_ble_eq_true rfl) (pI_k ?_)
        refine gs_42 F (by decide) dL_trial_82 ?_
        refine g_iload_n F dL_trial_83 rfl 0 rfl ?_
        have hPl : (fun (w9 : gY) => PV (perM x 2 i) w9 ∧ ∀ k : Int, k ≠ 42 → w9 k = y k) (yU (yU (yU (yU (yU y 42 (1) (bitsZ (fun q => x 6 q 0 ≠ -9 ∨ q = i) (x 10 0 0))) 42 (3) ((twU x) + (if sWr (x 2 (i) 0) (vU x (i) (x 15 0 0)) then 1 else 0))) 42 ((10) + (i)) (vU x (i) (x 15 0 0))) 42 (2) ((tcU x) + (1))) 42 (0) (kH ((x 15 0 0) + (5)))) := by
          refine ⟨PV_tri hi.1 hi.2 h6 h7 ?_ ?_ ?_ ?_ (fun q q0 q1 => ⟨?_, ?_⟩), fun k hk => ?_⟩
          · rw [yU_same]; unfold sBeh kH; (repeat' split) <;> omega
          · rw [yU_j (by decide), yU_j (by decide), yU_j (by omega), yU_j (by decide), yU_same]
          · rw [yU_j (by decide), yU_same]; split <;> omega
          · rw [yU_j (by decide), yU_j (by decide), yU_j (by omega), yU_same]
          · rw [yU_j (by omega), yU_j (by omega), yU_j (by omega), yU_j (by omega), yU_j (by omega)]; exact pv_s hq q0 q1
          · rw [yU_j (by omega), yU_j (by omega), yU_at]
            by_cases g : q = i
            · rw [if_pos (by omega), if_pos g]
            · rw [if_neg (by omega), if_neg g, yU_j (by omega), yU_j (by omega)]; exact pv_t hq q0 q1
          · rw [yU_k hk, yU_k hk, yU_k hk, yU_k hk, yU_k hk]
        exact g_ireturn F hR dL_trial_84 (pH_z (by rfl) (by exact hPl) rfl)
