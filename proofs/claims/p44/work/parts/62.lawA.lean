set_option maxHeartbeats 1000000 in
set_option maxRecDepth 20000 in
theorem law_A {Θ : gT} {l : Launch} {D : gD} {ad : gA} {b : Nat} {bg t xx : Int} {z : gX} {y : gY} (F : gF Θ l D ad cL_law RL 37 20) (hz : INV z) (hn : 1 ≤ z 10 0 0) (h16 : z 16 0 0 ≤ 9) (kk : ∀ u : gX, KP z u u → gW Θ l D ad 37 196 [(0, .ref b), (1, .ref (ad 7 (0))), (2, .ref (ad 41 (0))), (3, .ref (ad 42 (0))), (4, .ref (ad 43 (0))), (5, .int (J (z 10 0 0))), (6, .long (Lg (bg))), (8, .int (J (t))), (9, .int (J (xx))), (10, .int (J (z 16 0 0))), (11, .int (J (z 15 0 0))), (12, .int (J (trU z))), (13, .int (J (tcU z))), (14, .int (J (twU z))), (15, .int (J (cmB z))), (16, .int (J (clB z)))] [] u y) : gW Θ l D ad 37 98 [(0, .ref b), (1, .ref (ad 7 (0))), (2, .ref (ad 41 (0))), (3, .ref (ad 42 (0))), (4, .ref (ad 43 (0))), (5, .int (J (z 10 0 0))), (6, .long (Lg (bg))), (8, .int (J (t))), (9, .int (J (xx)))] [] z y := by
  have h10 := hz.1.2.1
  have h15 := hz.1.2.2.1
  have h160 := hz.2.2.1.1.1
  have htr := trU_r hz.1
  have hcm := cmB_r hz.1
  have hcl := clB_r hz.1
  have htc := tc_r hz.1
  have htw := tw_r hz.1
  have A0 := KP_rf hz
  refine g_aload_n F dL_law_98 rfl 1 rfl ?_
  refine g_iconst F dL_law_99 (2) (by decide) ?_
  refine g_callV 1 F (As := [.int (J (2))]) (st := []) (c_X7_count l D ad z y (2) (by omega) (KP_I A0)) (gR_7) rfl mk_L_101 ki_X7_count kc_X7_count (by decide +kernel) rfl (by decide) dL_law_100 rfl (Nat.le_of_ble_eq_true rfl) (pI_k ?_)
  refine g_topi (b := z 16 0 0) (ct2 A0) ?_
  refine g_istore F [(10, .int (J (z 16 0 0))), (0, .ref b), (1, .ref (ad 7 (0))), (2, .ref (ad 41 (0))), (3, .ref (ad 42 (0))), (4, .ref (ad 43 (0))), (5, .int (J (z 10 0 0))), (6, .long (Lg (bg))), (8, .int (J (t))), (9, .int (J (xx)))] dL_law_103 (by decide) rfl ?_
  refine g_aload_n F dL_law_105 rfl 2 rfl ?_
  refine g_iconst F dL_law_106 (1) (by decide) ?_
  refine g_callV 1 F (As := [.int (J (1))]) (st := []) (c_X7_count l D ad z y (1) (by omega) (KP_I A0)) (gR_7) rfl mk_L_101 ki_X7_count kc_X7_count (by decide +kernel) rfl (by decide) dL_law_107 rfl (Nat.le_of_ble_eq_true rfl) (pI_k ?_)
  refine g_topi (b := z 15 0 0) (ct1 A0) ?_
  refine g_istore F [(11, .int (J (z 15 0 0))), (10, .int (J (z 16 0 0))), (0, .ref b), (1, .ref (ad 7 (0))), (2, .ref (ad 41 (0))), (3, .ref (ad 42 (0))), (4, .ref (ad 43 (0))), (5, .int (J (z 10 0 0))), (6, .long (Lg (bg))), (8, .int (J (t))), (9, .int (J (xx)))] dL_law_110 (by decide) rfl ?_
  refine g_aload_n F dL_law_112 rfl 3 rfl ?_
  refine g_iconst F dL_law_113 (3) (by decide) ?_
  refine g_callV 1 F (As := [.int (J (3))]) (st := []) (c_X7_count l D ad z y (3) (by omega) (KP_I A0)) (gR_7) rfl mk_L_101 ki_X7_count kc_X7_count (by decide +kernel) rfl (by decide) dL_law_114 rfl (Nat.le_of_ble_eq_true rfl) (pI_k ?_)
  refine g_topi (b := trU z) (ct3 A0) ?_
  refine g_istore F [(12, .int (J (trU z))), (11, .int (J (z 15 0 0))), (10, .int (J (z 16 0 0))), (0, .ref b), (1, .ref (ad 7 (0))), (2, .ref (ad 41 (0))), (3, .ref (ad 42 (0))), (4, .ref (ad 43 (0))), (5, .int (J (z 10 0 0))), (6, .long (Lg (bg))), (8, .int (J (t))), (9, .int (J (xx)))] dL_law_117 (by decide) rfl ?_
  refine g_aload_n F dL_law_119 rfl 4 rfl ?_
  refine g_iconst F dL_law_120 (4) (by decide) ?_
  refine g_callV 1 F (As := [.int (J (4))]) (st := []) (c_X7_count l D ad z y (4) (by omega) (KP_I A0)) (gR_7) rfl mk_L_101 ki_X7_count kc_X7_count (by decide +kernel) rfl (by decide) dL_law_121 rfl (Nat.le_of_ble_eq_true rfl) (pI_k ?_)
  refine g_topi (b := tcU z) (ct4 A0) ?_
  refine g_istore F [(13, .int (J (tcU z))), (12, .int (J (trU z))), (11, .int (J (z 15 0 0))), (10, .int (J (z 16 0 0))), (0, .ref b), (1, .ref (ad 7 (0))), (2, .ref (ad 41 (0))), (3, .ref (ad 42 (0))), (4, .ref (ad 43 (0))), (5, .int (J (z 10 0 0))), (6, .long (Lg (bg))), (8, .int (J (t))), (9, .int (J (xx)))] dL_law_124 (by decide) rfl ?_
  refine g_aload_n F dL_law_126 rfl 5 rfl ?_
  refine g_iconst F dL_law_127 (5) (by decide) ?_
  refine g_callV 1 F (As := [.int (J (5))]) (st := []) (c_X7_count l D ad z y (5) (by omega) (KP_I A0)) (gR_7) rfl mk_L_101 ki_X7_count kc_X7_count (by decide +kernel) rfl (by decide) dL_law_128 rfl (Nat.le_of_ble_eq_true rfl) (pI_k ?_)
  refine g_topi (b := twU z) (ct5 A0) ?_
  refine g_istore F [(14, .int (J (twU z))), (13, .int (J (tcU z))), (12, .int (J (trU z))), (11, .int (J (z 15 0 0))), (10, .int (J (z 16 0 0))), (0, .ref b), (1, .ref (ad 7 (0))), (2, .ref (ad 41 (0))), (3, .ref (ad 42 (0))), (4, .ref (ad 43 (0))), (5, .int (J (z 10 0 0))), (6, .long (Lg (bg))), (8, .int (J (t))), (9, .int (J (xx)))] dL_law_131 (by decide) rfl ?_
  refine g_aload_n F dL_law_133 rfl 6 rfl ?_
  refine g_callV 0 F (As := []) (st := []) (c_X7_comes l D ad z y  (KP_I A0)) (gR_7) rfl mk_L_104 ki_X7_comes kc_X7_comes (by decide +kernel) rfl (by decide) dL_law_134 rfl (Nat.le_of_ble_eq_true rfl) (pI_k ?_)
  refine g_topi (b := cmB z) ((cq_k A0 hn).1) ?_
  refine g_nm (P := fun u_134 => KP z z u_134 ∧ u_134 19 0 0 = clB z) ((cq_k A0 hn).2) (fun u_134 ⟨A_u_134, T_u_134⟩ => ?_)
  refine g_istore F [(15, .int (J (cmB z))), (14, .int (J (twU z))), (13, .int (J (tcU z))), (12, .int (J (trU z))), (11, .int (J (z 15 0 0))), (10, .int (J (z 16 0 0))), (0, .ref b), (1, .ref (ad 7 (0))), (2, .ref (ad 41 (0))), (3, .ref (ad 42 (0))), (4, .ref (ad 43 (0))), (5, .int (J (z 10 0 0))), (6, .long (Lg (bg))), (8, .int (J (t))), (9, .int (J (xx)))] dL_law_137 (by decide) rfl ?_
  refine g_aload_n F dL_law_139 rfl 7 rfl ?_
  refine g_callV 0 F (As := []) (st := []) (c_X7_asked l D ad u_134 y  ) (gR_7) rfl mk_L_73 ki_X7_asked kc_X7_asked (by decide +kernel) rfl (by decide) dL_law_140 rfl (Nat.le_of_ble_eq_true rfl) (pI_k ?_)
  refine g_topi (b := clB z) (T_u_134) ?_
  refine g_istore F [(16, .int (J (clB z))), (15, .int (J (cmB z))), (14, .int (J (twU z))), (13, .int (J (tcU z))), (12, .int (J (trU z))), (11, .int (J (z 15 0 0))), (10, .int (J (z 16 0 0))), (0, .ref b), (1, .ref (ad 7 (0))), (2, .ref (ad 41 (0))), (3, .ref (ad 42 (0))), (4, .ref (ad 43 (0))), (5, .int (J (z 10 0 0))), (6, .long (Lg (bg))), (8, .int (J (t))), (9, .int (J (xx)))] dL_law_143 (by decide) rfl ?_
  refine g_iload F dL_law_145 5 rfl ?_
  refine g_if_lt 194 F dL_law_147 (by omega) rfl (fun c_1 => ?_) (fun c_1 => ?_)
  · skip
    exfalso; omega
  · skip
    refine g_iload F dL_law_150 5 rfl ?_
    refine g_bipush F dL_law_152 (30) (by decide) ?_
    refine g_icmp_gt 194 F dL_law_154 (by omega) (by decide) rfl (fun c_2 => ?_) (fun c_2 => ?_)
    · skip
      exfalso; omega
    · skip
      refine g_iload F dL_law_157 2 rfl ?_
      refine g_if_lt 194 F dL_law_159 (by omega) rfl (fun c_3 => ?_) (fun c_3 => ?_)
      · skip
        exfalso; omega
      · skip
        refine g_iload F dL_law_162 2 rfl ?_
        refine g_iload F dL_law_164 12 rfl ?_
        refine g_icmp_gt 194 F dL_law_166 (by omega) (by omega) rfl (fun c_4 => ?_) (fun c_4 => ?_)
        · skip
          exfalso; omega
        · skip
          refine g_iload F dL_law_169 3 rfl ?_
          refine g_iload F dL_law_171 12 rfl ?_
          refine g_icmp_gt 194 F dL_law_173 (by omega) (by omega) rfl (fun c_5 => ?_) (fun c_5 => ?_)
          · skip
            exfalso; omega
          · skip
            refine g_iload F dL_law_176 1 rfl ?_
            refine g_iload F dL_law_178 4 rfl ?_
            refine g_iand F dL_law_180 (0) (cm_tr hz.1) ?_
            refine g_if_ne 194 F dL_law_181 (by decide) rfl (fun c_6 => ?_) (fun c_6 => ?_)
            · skip
              exact absurd c_6 (by decide)
            · skip
              refine g_iload F dL_law_184 0 rfl ?_
              refine g_iload F dL_law_186 1 rfl ?_
              refine g_iconst F dL_law_188 (-1) (by decide) ?_
              refine g_ixor F dL_law_189 (-(cmB z) - 1) (notJ (cmB z)) ?_
              refine g_iand F dL_law_190 (0) (cl_cm hz.1) ?_
              refine g_if_eq 196 F dL_law_191 (by decide) rfl (fun c_7 => ?_) (fun c_7 => ?_)
              · skip
                refine g_sub [7, 8, 9, 10, 11, 12, 13, 14, 15, 6, 5, 4, 3, 2, 1, 0] (lv' := [(0, .ref b), (1, .ref (ad 7 (0))), (2, .ref (ad 41 (0))), (3, .ref (ad 42 (0))), (4, .ref (ad 43 (0))), (5, .int (J (z 10 0 0))), (6, .long (Lg (bg))), (8, .int (J (t))), (9, .int (J (xx))), (10, .int (J (z 16 0 0))), (11, .int (J (z 15 0 0))), (12, .int (J (trU z))), (13, .int (J (tcU z))), (14, .int (J (twU z))), (15, .int (J (cmB z))), (16, .int (J (clB z)))]) rfl ?_
                exact kk _ (KP_re A_u_134)
              · skip
                exact absurd c_7 (by decide)
