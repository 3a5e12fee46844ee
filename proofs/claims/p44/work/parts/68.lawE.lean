theorem cU_v {z : gX} {i h : Int} (c : cU z i h) : vU z i h ≠ 2 := by
  unfold vU
  rw [if_pos c]
  split <;> decide
theorem v_cU {z : gX} {i h : Int} (c : vU z i h ≠ 2) : cU z i h := by
  apply Decidable.byContradiction
  intro g
  unfold vU at c
  rw [if_neg g] at c
  exact c rfl
theorem nd_g {z : gX} (hN : NOK z) (hL : lsP z (z 10 0 0)) {i : Int} (hi : 0 ≤ i ∧ i ≤ z 10 0 0) : 0 ≤ sumZ (fun q => ndU z q) i ∧ sumZ (fun q => ndU z q) i ≤ 18 := by
  have h10 := hN.2.1
  have b : 0 * i ≤ sumZ (fun q => ndU z q) i ∧ sumZ (fun q => ndU z q) i ≤ 3 * i := sumZ_range (f := fun q => ndU z q) (a := 0) (b := 3) hi.1 (fun q h0 h1 => ⟨nd_0 z q, by
    have t := nd_3 h10.1 hL h0 (by omega)
    have m := (hN.2.2.2 q h0 (by omega)).2.2.2.2.1
    show ndU z q ≤ 3
    omega⟩)
  omega
theorem od_b {z r u : gX} (A : KP z r u) (hn : 1 ≤ z 10 0 0) : (sOdds u 0).1 = 1 ∧ KP z r (sOdds u 0).2 ∧ (sOdds u 0).2 8 0 0 = if lvU z = 0 then 1 else 0 := by
  by_cases c : lvU z = 0
  · rw [if_pos c]; exact od_1 A hn (nd_all c)
  · rw [if_neg c]
    obtain ⟨i, h0, h1, hd⟩ := nd_ex c
    exact od_0 A hn h0 h1 hd
set_option maxHeartbeats 1000000 in
set_option maxRecDepth 20000 in
theorem law_E2 {Θ : gT} {l : Launch} {D : gD} {ad : gA} {b : Nat} {z : gX} {bg t xx fo : Int} {u : gX} {y : gY} (F : gF Θ l D ad cL_law RL 37 20) (hz : INV z) (hn : 1 ≤ z 10 0 0) (h16 : z 16 0 0 ≤ 9) (A : KP z u u) (hL : ¬ lsP z (z 10 0 0)) (kk : ∀ (v : gX) (w : gY), KP z v v → w 41 = y 41 → w 42 = y 42 → gW Θ l D ad 37 1304 [(0, .ref b), (1, .ref (ad 7 (0))), (2, .ref (ad 41 (0))), (3, .ref (ad 42 (0))), (4, .ref (ad 43 (0))), (5, .int (J (z 10 0 0))), (6, .long (Lg (bg))), (8, .int (J (t))), (9, .int (J (xx))), (10, .int (J (z 16 0 0))), (11, .int (J (z 15 0 0))), (12, .int (J (trU z))), (13, .int (J (tcU z))), (14, .int (J (twU z))), (15, .int (J (cmB z))), (16, .int (J (clB z))), (17, .int (J (fo)))] [] v w) : gW Θ l D ad 37 1024 [(0, .ref b), (1, .ref (ad 7 (0))), (2, .ref (ad 41 (0))), (3, .ref (ad 42 (0))), (4, .ref (ad 43 (0))), (5, .int (J (z 10 0 0))), (6, .long (Lg (bg))), (8, .int (J (t))), (9, .int (J (xx))), (10, .int (J (z 16 0 0))), (11, .int (J (z 15 0 0))), (12, .int (J (trU z))), (13, .int (J (tcU z))), (14, .int (J (twU z))), (15, .int (J (cmB z))), (16, .int (J (clB z))), (17, .int (J (fo)))] [] u y := by
  have h10 := hz.1.2.1
  have h15 := hz.1.2.2.1
  have h160 := hz.2.2.1.1.1
  have htr := trU_r hz.1
  have hcm := cmB_r hz.1
  have hcl := clB_r hz.1
  have htc := tc_r hz.1
  have htw := tw_r hz.1
  obtain ⟨wi, w0, w1, w2⟩ := ls_ex hz hL
  refine g_aload_n F dL_law_1024 rfl 1 rfl ?_
  refine g_callV 0 F (As := []) (st := []) (c_X7_least l D ad u y  (KP_I A)) (gR_7) rfl mk_L_147 ki_X7_least kc_X7_least (by decide +kernel) rfl (by decide) dL_law_1025 rfl (Nat.le_of_ble_eq_true rfl) (pI_k ?_)
  refine g_topi (b := -9) ((le_k1 A hn hL).1) ?_
  refine g_nm (P := fun u_1025 => KP z u u_1025) ((le_k1 A hn hL).2) (fun u_1025 A_u_1025 => ?_)
  refine g_istore F [(24, .int (J (-9))), (0, .ref b), (1, .ref (ad 7 (0))), (2, .ref (ad 41 (0))), (3, .ref (ad 42 (0))), (4, .ref (ad 43 (0))), (5, .int (J (z 10 0 0))), (6, .long (Lg (bg))), (8, .int (J (t))), (9, .int (J (xx))), (10, .int (J (z 16 0 0))), (11, .int (J (z 15 0 0))), (12, .int (J (trU z))), (13, .int (J (tcU z))), (14, .int (J (twU z))), (15, .int (J (cmB z))), (16, .int (J (clB z))), (17, .int (J (fo)))] dL_law_1028 (by decide) rfl ?_
  refine g_aload_n F dL_law_1030 rfl 2 rfl ?_
  refine g_callV 0 F (As := []) (st := []) (c_X7_asked l D ad u_1025 y  ) (gR_7) rfl mk_L_73 ki_X7_asked kc_X7_asked (by decide +kernel) rfl (by decide) dL_law_1031 rfl (Nat.le_of_ble_eq_true rfl) (pI_k ?_)
  refine g_istore F [(25, .int (J (u_1025 19 0 0))), (24, .int (J (-9))), (0, .ref b), (1, .ref (ad 7 (0))), (2, .ref (ad 41 (0))), (3, .ref (ad 42 (0))), (4, .ref (ad 43 (0))), (5, .int (J (z 10 0 0))), (6, .long (Lg (bg))), (8, .int (J (t))), (9, .int (J (xx))), (10, .int (J (z 16 0 0))), (11, .int (J (z 15 0 0))), (12, .int (J (trU z))), (13, .int (J (tcU z))), (14, .int (J (twU z))), (15, .int (J (cmB z))), (16, .int (J (clB z))), (17, .int (J (fo)))] dL_law_1034 (by decide) rfl ?_
  refine g_iload F dL_law_1036 1 rfl ?_
  refine g_bipush F dL_law_1038 (-9) (by decide) ?_
  refine g_icmp_lt 1097 F dL_law_1040 (by decide) (by decide) rfl (fun c_1 => ?_) (fun c_1 => ?_)
  · skip
    exact absurd c_1 (by decide)
  · skip
    refine g_iload F dL_law_1043 1 rfl ?_
    refine g_bipush F dL_law_1045 (-9) (by decide) ?_
    refine g_icmp_le 1055 F dL_law_1047 (by decide) (by decide) rfl (fun c_2 => ?_) (fun c_2 => ?_)
    · skip
      refine g_iload F dL_law_1055 1 rfl ?_
      refine g_bipush F dL_law_1057 (18) (by decide) ?_
      refine g_icmp_gt 1097 F dL_law_1059 (by decide) (by decide) rfl (fun c_3 => ?_) (fun c_3 => ?_)
      · skip
        exact absurd c_3 (by decide)
      · skip
        refine g_iload F dL_law_1062 1 rfl ?_
        refine g_if_lt 1099 F dL_law_1064 (by decide) rfl (fun c_4 => ?_) (fun c_4 => ?_)
        · skip
          refine g_iconst F dL_law_1099 (0) (by decide) ?_
          refine g_istore F [(26, .int (J (0))), (25, .int (J (u_1025 19 0 0))), (24, .int (J (-9))), (0, .ref b), (1, .ref (ad 7 (0))), (2, .ref (ad 41 (0))), (3, .ref (ad 42 (0))), (4, .ref (ad 43 (0))), (5, .int (J (z 10 0 0))), (6, .long (Lg (bg))), (8, .int (J (t))), (9, .int (J (xx))), (10, .int (J (z 16 0 0))), (11, .int (J (z 15 0 0))), (12, .int (J (trU z))), (13, .int (J (tcU z))), (14, .int (J (twU z))), (15, .int (J (cmB z))), (16, .int (J (clB z))), (17, .int (J (fo)))] dL_law_1100 (by decide) rfl ?_
          refine g_iconst F dL_law_1102 (0) (by decide) ?_
          refine g_istore F [(27, .int (J (0))), (26, .int (J (0))), (25, .int (J (u_1025 19 0 0))), (24, .int (J (-9))), (0, .ref b), (1, .ref (ad 7 (0))), (2, .ref (ad 41 (0))), (3, .ref (ad 42 (0))), (4, .ref (ad 43 (0))), (5, .int (J (z 10 0 0))), (6, .long (Lg (bg))), (8, .int (J (t))), (9, .int (J (xx))), (10, .int (J (z 16 0 0))), (11, .int (J (z 15 0 0))), (12, .int (J (trU z))), (13, .int (J (tcU z))), (14, .int (J (twU z))), (15, .int (J (cmB z))), (16, .int (J (clB z))), (17, .int (J (fo)))] dL_law_1103 (by decide) rfl ?_
          refine g_iconst F dL_law_1105 (0) (by decide) ?_
          refine g_istore F [(28, .int (J (0))), (27, .int (J (0))), (26, .int (J (0))), (25, .int (J (u_1025 19 0 0))), (24, .int (J (-9))), (0, .ref b), (1, .ref (ad 7 (0))), (2, .ref (ad 41 (0))), (3, .ref (ad 42 (0))), (4, .ref (ad 43 (0))), (5, .int (J (z 10 0 0))), (6, .long (Lg (bg))), (8, .int (J (t))), (9, .int (J (xx))), (10, .int (J (z 16 0 0))), (11, .int (J (z 15 0 0))), (12, .int (J (trU z))), (13, .int (J (tcU z))), (14, .int (J (twU z))), (15, .int (J (cmB z))), (16, .int (J (clB z))), (17, .int (J (fo)))] dL_law_1106 (by decide) rfl ?_
          refine g_iload F dL_law_1108 0 rfl ?_
          refine g_iload F dL_law_1110 10 rfl ?_
          refine g_icmp_ge 1208 F dL_law_1112 (by decide) (by omega) rfl (fun c_5 => ?_) (fun c_5 => ?_)
          · skip
            exfalso; omega
          · skip
            refine g_iload F dL_law_1115 4 rfl ?_
            refine g_if_lt 1208 F dL_law_1117 (by decide) rfl (fun c_6 => ?_) (fun c_6 => ?_)
            · skip
              refine g_iload F dL_law_1208 4 rfl ?_
              refine g_if_lt 1279 F dL_law_1210 (by decide) rfl (fun c_7 => ?_) (fun c_7 => ?_)
              · skip
                refine g_iload F dL_law_1279 4 rfl ?_
                refine g_if_ge 1304 F dL_law_1281 (by decide) rfl (fun c_8 => ?_) (fun c_8 => ?_)
                · skip
                  exact absurd c_8 (by decide)
                · skip
                  refine g_aload_n F dL_law_1284 rfl 6 rfl ?_
                  refine g_iconst F dL_law_1285 (0) (by decide) ?_
                  refine g_callV 1 F (As := [.int (J (0))]) (st := []) (c_X7_odds l D ad u_1025 y (0) (by omega) (KP_I A_u_1025)) (gR_7) rfl mk_L_150 ki_X7_odds kc_X7_odds (by decide +kernel) rfl (by decide) dL_law_1286 rfl (Nat.le_of_ble_eq_true rfl) (pI_k ?_)
                  refine g_topi (b := 1) ((od_0 A_u_1025 hn w0 w1 w2).1) ?_
                  refine g_nm (P := fun u_1286 => KP z u u_1286 ∧ u_1286 8 0 0 = 0) ((od_0 A_u_1025 hn w0 w1 w2).2) (fun u_1286 ⟨A_u_1286, T_u_1286⟩ => ?_)
                  refine g_iconst F dL_law_1289 (1) (by decide) ?_
                  refine g_icmp_ne 1302 F dL_law_1290 (by decide) (by decide) rfl (fun c_9 => ?_) (fun c_9 => ?_)
                  · skip
                    exact absurd c_9 (by decide)
                  · skip
                    refine g_aload_n F dL_law_1293 rfl 6 rfl ?_
                    refine g_callV 0 F (As := []) (st := []) (c_X7_upper l D ad u_1286 y  ) (gR_7) rfl mk_L_123 ki_X7_upper kc_X7_upper (by decide +kernel) rfl (by decide) dL_law_1294 rfl (Nat.le_of_ble_eq_true rfl) (pL_k ?_)
                    refine g_topl (b := 0) (T_u_1286) ?_
                    refine g_lconst F dL_law_1297 0 (by decide) ?_
                    refine g_lcmp_eq 1304 F dL_law_1298 dL_law_1299 (by decide) (by decide) rfl (fun c_10 => ?_) (fun c_10 => ?_)
                    · skip
                      refine g_sub [5, 6, 7, 8, 9, 10, 11, 12, 13, 14, 15, 16, 17, 18, 19, 20, 21] (lv' := [(0, .ref b), (1, .ref (ad 7 (0))), (2, .ref (ad 41 (0))), (3, .ref (ad 42 (0))), (4, .ref (ad 43 (0))), (5, .int (J (z 10 0 0))), (6, .long (Lg (bg))), (8, .int (J (t))), (9, .int (J (xx))), (10, .int (J (z 16 0 0))), (11, .int (J (z 15 0 0))), (12, .int (J (trU z))), (13, .int (J (tcU z))), (14, .int (J (twU z))), (15, .int (J (cmB z))), (16, .int (J (clB z))), (17, .int (J (fo)))]) rfl ?_
                      exact kk _ _ (KP_re A_u_1286) rfl rfl
                    · skip
                      exfalso; omega
              · skip
                exact absurd c_7 (by decide)
            · skip
              exact absurd c_6 (by decide)
        · skip
          exact absurd c_4 (by decide)
    · skip
      exact absurd c_2 (by decide)
set_option maxHeartbeats 1000000 in
set_option maxRecDepth 20000 in
theorem law_E1 {Θ : gT} {l : Launch} {D : gD} {ad : gA} {b : Nat} {z : gX} {bg t xx fo : Int} {u : gX} {y : gY} (F : gF Θ l D ad cL_law RL 37 20) (hz : INV z) (hn : 1 ≤ z 10 0 0) (h16 : z 16 0 0 ≤ 9) (A : KP z u u) (hL : lsP z (z 10 0 0)) (kk : ∀ (v : gX) (w : gY), KP z v v → w 41 = y 41 → w 42 = y 42 → gW Θ l D ad 37 1304 [(0, .ref b), (1, .ref (ad 7 (0))), (2, .ref (ad 41 (0))), (3, .ref (ad 42 (0))), (4, .ref (ad 43 (0))), (5, .int (J (z 10 0 0))), (6, .long (Lg (bg))), (8, .int (J (t))), (9, .int (J (xx))), (10, .int (J (z 16 0 0))), (11, .int (J (z 15 0 0))), (12, .int (J (trU z))), (13, .int (J (tcU z))), (14, .int (J (twU z))), (15, .int (J (cmB z))), (16, .int (J (clB z))), (17, .int (J (fo)))] [] v w) : gW Θ l D ad 37 1024 [(0, .ref b), (1, .ref (ad 7 (0))), (2, .ref (ad 41 (0))), (3, .ref (ad 42 (0))), (4, .ref (ad 43 (0))), (5, .int (J (z 10 0 0))), (6, .long (Lg (bg))), (8, .int (J (t))), (9, .int (J (xx))), (10, .int (J (z 16 0 0))), (11, .int (J (z 15 0 0))), (12, .int (J (trU z))), (13, .int (J (tcU z))), (14, .int (J (twU z))), (15, .int (J (cmB z))), (16, .int (J (clB z))), (17, .int (J (fo)))] [] u y := by
  have h10 := hz.1.2.1
  have h15 := hz.1.2.2.1
  have h160 := hz.2.2.1.1.1
  have htr := trU_r hz.1
  have hcm := cmB_r hz.1
  have hcl := clB_r hz.1
  have htc := tc_r hz.1
  have htw := tw_r hz.1
  refine g_aload_n F dL_law_1024 rfl 1 rfl ?_
  refine g_callV 0 F (As := []) (st := []) (c_X7_least l D ad u y  (KP_I A)) (gR_7) rfl mk_L_147 ki_X7_least kc_X7_least (by decide +kernel) rfl (by decide) dL_law_1025 rfl (Nat.le_of_ble_eq_true rfl) (pI_k ?_)
  refine g_topi (b := lvU z) ((le_k0 A hn hL).1) ?_
  refine g_nm (P := fun u_1025 => KP z u u_1025 ∧ u_1025 19 0 0 = lnU z) ((le_k0 A hn hL).2) (fun u_1025 ⟨A_u_1025, T_u_1025⟩ => ?_)
  refine g_nmi (P := fun lv => lv = lvU z) (rfl) (fun lv h_lv => ?_)
  refine g_istore F [(24, .int (J (lv))), (0, .ref b), (1, .ref (ad 7 (0))), (2, .ref (ad 41 (0))), (3, .ref (ad 42 (0))), (4, .ref (ad 43 (0))), (5, .int (J (z 10 0 0))), (6, .long (Lg (bg))), (8, .int (J (t))), (9, .int (J (xx))), (10, .int (J (z 16 0 0))), (11, .int (J (z 15 0 0))), (12, .int (J (trU z))), (13, .int (J (tcU z))), (14, .int (J (twU z))), (15, .int (J (cmB z))), (16, .int (J (clB z))), (17, .int (J (fo)))] dL_law_1028 (by decide) rfl ?_
  refine g_aload_n F dL_law_1030 rfl 2 rfl ?_
  refine g_callV 0 F (As := []) (st := []) (c_X7_asked l D ad u_1025 y  ) (gR_7) rfl mk_L_73 ki_X7_asked kc_X7_asked (by decide +kernel) rfl (by decide) dL_law_1031 rfl (Nat.le_of_ble_eq_true rfl) (pI_k ?_)
  refine g_topi (b := lnU z) (T_u_1025) ?_
  refine g_nmi (P := fun nd => nd = lnU z) (rfl) (fun nd h_nd => ?_)
  have lf := lv_f hz.1 hL
  rw [← h_lv, ← h_nd] at lf
  obtain ⟨lf1, lf2, lf3⟩ := lf
  have lf4 : (nd = 0 ∧ lv = 0) ∨ (0 < nd ∧ 0 < lv) := by omega
  clear lf3
  refine g_istore F [(25, .int (J (nd))), (24, .int (J (lv))), (0, .ref b), (1, .ref (ad 7 (0))), (2, .ref (ad 41 (0))), (3, .ref (ad 42 (0))), (4, .ref (ad 43 (0))), (5, .int (J (z 10 0 0))), (6, .long (Lg (bg))), (8, .int (J (t))), (9, .int (J (xx))), (10, .int (J (z 16 0 0))), (11, .int (J (z 15 0 0))), (12, .int (J (trU z))), (13, .int (J (tcU z))), (14, .int (J (twU z))), (15, .int (J (cmB z))), (16, .int (J (clB z))), (17, .int (J (fo)))] dL_law_1034 (by decide) rfl ?_
  refine g_iload F dL_law_1036 1 rfl ?_
  refine g_bipush F dL_law_1038 (-9) (by decide) ?_
  refine g_icmp_lt 1097 F dL_law_1040 (by omega) (by decide) rfl (fun c_1 => ?_) (fun c_1 => ?_)
  · skip
    exfalso; omega
  · skip
    refine g_iload F dL_law_1043 1 rfl ?_
    refine g_bipush F dL_law_1045 (-9) (by decide) ?_
    refine g_icmp_le 1055 F dL_law_1047 (by omega) (by decide) rfl (fun c_2 => ?_) (fun c_2 => ?_)
    · skip
      exfalso; omega
    · skip
      refine g_iload F dL_law_1050 1 rfl ?_
      refine g_if_lt 1097 F dL_law_1052 (by omega) rfl (fun c_3 => ?_) (fun c_3 => ?_)
      · skip
        exfalso; omega
      · skip
        refine g_iload F dL_law_1055 1 rfl ?_
        refine g_bipush F dL_law_1057 (18) (by decide) ?_
        refine g_icmp_gt 1097 F dL_law_1059 (by omega) (by decide) rfl (fun c_4 => ?_) (fun c_4 => ?_)
        · skip
          exfalso; omega
        · skip
          have L1099 :  gW Θ l D ad 37 1099 [(0, .ref b), (1, .ref (ad 7 (0))), (2, .ref (ad 41 (0))), (3, .ref (ad 42 (0))), (4, .ref (ad 43 (0))), (5, .int (J (z 10 0 0))), (6, .long (Lg (bg))), (8, .int (J (t))), (9, .int (J (xx))), (10, .int (J (z 16 0 0))), (11, .int (J (z 15 0 0))), (12, .int (J (trU z))), (13, .int (J (tcU z))), (14, .int (J (twU z))), (15, .int (J (cmB z))), (16, .int (J (clB z))), (17, .int (J (fo))), (24, .int (J (lv))), (25, .int (J (nd)))] [] u_1025 y := by
            refine g_iconst F dL_law_1099 (0) (by decide) ?_
            refine g_istore F [(26, .int (J (0))), (0, .ref b), (1, .ref (ad 7 (0))), (2, .ref (ad 41 (0))), (3, .ref (ad 42 (0))), (4, .ref (ad 43 (0))), (5, .int (J (z 10 0 0))), (6, .long (Lg (bg))), (8, .int (J (t))), (9, .int (J (xx))), (10, .int (J (z 16 0 0))), (11, .int (J (z 15 0 0))), (12, .int (J (trU z))), (13, .int (J (tcU z))), (14, .int (J (twU z))), (15, .int (J (cmB z))), (16, .int (J (clB z))), (17, .int (J (fo))), (24, .int (J (lv))), (25, .int (J (nd)))] dL_law_1100 (by decide) rfl ?_
            refine g_iconst F dL_law_1102 (0) (by decide) ?_
            refine g_istore F [(27, .int (J (0))), (26, .int (J (0))), (0, .ref b), (1, .ref (ad 7 (0))), (2, .ref (ad 41 (0))), (3, .ref (ad 42 (0))), (4, .ref (ad 43 (0))), (5, .int (J (z 10 0 0))), (6, .long (Lg (bg))), (8, .int (J (t))), (9, .int (J (xx))), (10, .int (J (z 16 0 0))), (11, .int (J (z 15 0 0))), (12, .int (J (trU z))), (13, .int (J (tcU z))), (14, .int (J (twU z))), (15, .int (J (cmB z))), (16, .int (J (clB z))), (17, .int (J (fo))), (24, .int (J (lv))), (25, .int (J (nd)))] dL_law_1103 (by decide) rfl ?_
            refine g_iconst F dL_law_1105 (0) (by decide) ?_
            refine g_istore F [(28, .int (J (0))), (27, .int (J (0))), (26, .int (J (0))), (0, .ref b), (1, .ref (ad 7 (0))), (2, .ref (ad 41 (0))), (3, .ref (ad 42 (0))), (4, .ref (ad 43 (0))), (5, .int (J (z 10 0 0))), (6, .long (Lg (bg))), (8, .int (J (t))), (9, .int (J (xx))), (10, .int (J (z 16 0 0))), (11, .int (J (z 15 0 0))), (12, .int (J (trU z))), (13, .int (J (tcU z))), (14, .int (J (twU z))), (15, .int (J (cmB z))), (16, .int (J (clB z))), (17, .int (J (fo))), (24, .int (J (lv))), (25, .int (J (nd)))] dL_law_1106 (by decide) rfl ?_
            have L1108 : ∀ (N : Nat) (u8 : gX) (w8 : gY) (g : Int) (m : Int) (i : Int), 0 ≤ i ∧ i ≤ z 10 0 0 → SL z u i 0 u8 → g = sumZ (fun q => ndU z q) i → m = sumZ (fun q => if 0 < ndU z q then 1 else 0) i → w8 41 = y 41 → w8 42 = y 42 → (z 10 0 0 - i).toNat < N → gW Θ l D ad 37 1108 [(0, .ref b), (1, .ref (ad 7 (0))), (2, .ref (ad 41 (0))), (3, .ref (ad 42 (0))), (4, .ref (ad 43 (0))), (5, .int (J (z 10 0 0))), (6, .long (Lg (bg))), (8, .int (J (t))), (9, .int (J (xx))), (10, .int (J (z 16 0 0))), (11, .int (J (z 15 0 0))), (12, .int (J (trU z))), (13, .int (J (tcU z))), (14, .int (J (twU z))), (15, .int (J (cmB z))), (16, .int (J (clB z))), (17, .int (J (fo))), (24, .int (J (lv))), (25, .int (J (nd))), (26, .int (J (g))), (27, .int (J (m))), (28, .int (J (i)))] [] u8 w8 := by
              intro N
              induction N with
              | zero => intro u8 w8 g m i hi hS hg hm y1 y2 hFu; omega
              | succ N ih1108 =>
                intro u8 w8 g m i hi hS hg hm y1 y2 hFu
                refine g_iload F dL_law_1108 21 rfl ?_
                refine g_iload F dL_law_1110 5 rfl ?_
                refine g_icmp_ge 1208 F dL_law_1112 (by omega) (by omega) rfl (fun c_5 => ?_) (fun c_5 => ?_)
                · skip
                  have ei : i = z 10 0 0 := by omega
                  rw [ei] at hS hg hm
                  have eg : g = lv := by rw [hg, h_lv]
                  have em : m = nd := by rw [hm, h_nd]
                  refine g_iload F dL_law_1208 17 rfl ?_
                  refine g_if_lt 1279 F dL_law_1210 (by omega) rfl (fun c_6 => ?_) (fun c_6 => ?_)
                  · skip
                    exfalso; omega
                  · skip
                    refine g_iload F dL_law_1213 19 rfl ?_
                    refine g_iload F dL_law_1215 17 rfl ?_
                    refine g_icmp_ne 1277 F dL_law_1217 (by omega) (by omega) rfl (fun c_7 => ?_) (fun c_7 => ?_)
                    · skip
                      exfalso; omega
                    · skip
                      refine g_iload F dL_law_1220 20 rfl ?_
                      refine g_iload F dL_law_1222 18 rfl ?_
                      refine g_icmp_ne 1277 F dL_law_1224 (by omega) (by omega) rfl (fun c_8 => ?_) (fun c_8 => ?_)
                      · skip
                        exfalso; omega
                      · skip
                        refine g_aload_n F dL_law_1227 rfl 1 rfl ?_
                        refine g_callV 0 F (As := []) (st := []) (c_X7_least l D ad u8 w8  (hS.1.1)) (gR_7) rfl mk_L_147 ki_X7_least kc_X7_least (by decide +kernel) rfl (by decide) dL_law_1228 rfl (Nat.le_of_ble_eq_true rfl) (pI_k ?_)
                        refine g_topi (b := 0) ((SL_e hz hn hL hS).1) ?_
                        refine g_nm (P := fun u_1228 => SL z u (z 10 0 0) 0 u_1228) ((SL_e hz hn hL hS).2) (fun u_1228 S_u_1228 => ?_)
                        refine g_if_ne 1277 F dL_law_1231 (by decide) rfl (fun c_9 => ?_) (fun c_9 => ?_)
                        · skip
                          exact absurd c_9 (by decide)
                        · skip
                          have L1250 : ∀ (u11 : gX), KP z u u11 → gW Θ l D ad 37 1250 [(0, .ref b), (1, .ref (ad 7 (0))), (2, .ref (ad 41 (0))), (3, .ref (ad 42 (0))), (4, .ref (ad 43 (0))), (5, .int (J (z 10 0 0))), (6, .long (Lg (bg))), (8, .int (J (t))), (9, .int (J (xx))), (10, .int (J (z 16 0 0))), (11, .int (J (z 15 0 0))), (12, .int (J (trU z))), (13, .int (J (tcU z))), (14, .int (J (twU z))), (15, .int (J (cmB z))), (16, .int (J (clB z))), (17, .int (J (fo))), (24, .int (J (lv)))] [] u11 w8 := by
                            intro u11 nA11
                            refine g_aload_n F dL_law_1250 rfl 1 rfl ?_
                            refine g_iconst F dL_law_1251 (0) (by decide) ?_
                            refine g_callV 1 F (As := [.int (J (0))]) (st := []) (c_X7_odds l D ad u11 w8 (0) (by omega) (KP_I nA11)) (gR_7) rfl mk_L_150 ki_X7_odds kc_X7_odds (by decide +kernel) rfl (by decide) dL_law_1252 rfl (Nat.le_of_ble_eq_true rfl) (pI_k ?_)
                            refine g_topi (b := 1) ((od_b nA11 hn).1) ?_
                            refine g_nm (P := fun u_1252 => KP z u u_1252 ∧ u_1252 8 0 0 = if lvU z = 0 then 1 else 0) ((od_b nA11 hn).2) (fun u_1252 ⟨A_u_1252, T_u_1252⟩ => ?_)
                            refine g_iconst F dL_law_1255 (1) (by decide) ?_
                            refine g_icmp_ne 1277 F dL_law_1256 (by decide) (by decide) rfl (fun c_10 => ?_) (fun c_10 => ?_)
                            · skip
                              exact absurd c_10 (by decide)
                            · skip
                              refine g_aload_n F dL_law_1259 rfl 1 rfl ?_
                              refine g_callV 0 F (As := []) (st := []) (c_X7_upper l D ad u_1252 w8  ) (gR_7) rfl mk_L_123 ki_X7_upper kc_X7_upper (by decide +kernel) rfl (by decide) dL_law_1260 rfl (Nat.le_of_ble_eq_true rfl) (pL_k ?_)
                              refine g_topl (b := if lv = 0 then 1 else 0) (by rw [T_u_1252, h_lv]) ?_
                              refine g_nml (P := fun uo => uo = if lv = 0 then 1 else 0) (rfl) (fun uo h_uo => ?_)
                              refine g_iload F dL_law_1263 17 rfl ?_
                              refine g_if_ne 1272 F dL_law_1265 (by omega) rfl (fun c_11 => ?_) (fun c_11 => ?_)
                              · skip
                                refine g_lconst F dL_law_1272 0 (by decide) ?_
                                refine g_lcmp_eq 1279 F dL_law_1273 dL_law_1274 (by omega) (by decide) rfl (fun c_12 => ?_) (fun c_12 => ?_)
                                · skip
                                  refine g_iload F dL_law_1279 17 rfl ?_
                                  refine g_if_ge 1304 F dL_law_1281 (by omega) rfl (fun c_13 => ?_) (fun c_13 => ?_)
                                  · skip
                                    refine g_sub [0, 1, 2, 3, 4, 5, 6, 7, 8, 9, 10, 11, 12, 13, 14, 15, 16] (lv' := [(0, .ref b), (1, .ref (ad 7 (0))), (2, .ref (ad 41 (0))), (3, .ref (ad 42 (0))), (4, .ref (ad 43 (0))), (5, .int (J (z 10 0 0))), (6, .long (Lg (bg))), (8, .int (J (t))), (9, .int (J (xx))), (10, .int (J (z 16 0 0))), (11, .int (J (z 15 0 0))), (12, .int (J (trU z))), (13, .int (J (tcU z))), (14, .int (J (twU z))), (15, .int (J (cmB z))), (16, .int (J (clB z))), (17, .int (J (fo)))]) rfl ?_
                                    exact kk _ _ (KP_re A_u_1252) y1 y2
                                  · skip
                                    exfalso; omega
                                · skip
                                  exfalso; omega
                              · skip
                                refine g_lconst F dL_law_1268 1 (by decide) ?_
                                refine g_goto F 1273 dL_law_1269 rfl ?_
                                refine g_lcmp_eq 1279 F dL_law_1273 dL_law_1274 (by omega) (by decide) rfl (fun c_14 => ?_) (fun c_14 => ?_)
                                · skip
                                  refine g_iload F dL_law_1279 17 rfl ?_
                                  refine g_if_ge 1304 F dL_law_1281 (by omega) rfl (fun c_15 => ?_) (fun c_15 => ?_)
                                  · skip
                                    refine g_sub [0, 1, 2, 3, 4, 5, 6, 7, 8, 9, 10, 11, 12, 13, 14, 15, 16] (lv' := [(0, .ref b), (1, .ref (ad 7 (0))), (2, .ref (ad 41 (0))), (3, .ref (ad 42 (0))), (4, .ref (ad 43 (0))), (5, .int (J (z 10 0 0))), (6, .long (Lg (bg))), (8, .int (J (t))), (9, .int (J (xx))), (10, .int (J (z 16 0 0))), (11, .int (J (z 15 0 0))), (12, .int (J (trU z))), (13, .int (J (tcU z))), (14, .int (J (twU z))), (15, .int (J (cmB z))), (16, .int (J (clB z))), (17, .int (J (fo)))]) rfl ?_
                                    exact kk _ _ (KP_re A_u_1252) y1 y2
                                  · skip
                                    exfalso; omega
                                · skip
                                  exfalso; omega
                          refine g_iload F dL_law_1234 19 rfl ?_
                          refine g_if_le 1250 F dL_law_1236 (by omega) rfl (fun c_16 => ?_) (fun c_16 => ?_)
                          · skip
                            have nA := S_u_1228.2.2.2.2.2.2 (by rw [← hg]; omega)
                            refine g_sub [0, 1, 2, 3, 4, 5, 6, 7, 8, 9, 10, 11, 12, 13, 14, 15, 16, 17] (lv' := [(0, .ref b), (1, .ref (ad 7 (0))), (2, .ref (ad 41 (0))), (3, .ref (ad 42 (0))), (4, .ref (ad 43 (0))), (5, .int (J (z 10 0 0))), (6, .long (Lg (bg))), (8, .int (J (t))), (9, .int (J (xx))), (10, .int (J (z 16 0 0))), (11, .int (J (z 15 0 0))), (12, .int (J (trU z))), (13, .int (J (tcU z))), (14, .int (J (twU z))), (15, .int (J (cmB z))), (16, .int (J (clB z))), (17, .int (J (fo))), (24, .int (J (lv)))]) rfl ?_
                            exact L1250 (u_1228) (nA)
                          · skip
                            refine g_aload_n F dL_law_1239 rfl 1 rfl ?_
                            refine g_iload F dL_law_1240 9 rfl ?_
                            refine g_callV 1 F (As := [.int (J (z 16 0 0))]) (st := []) (c_X7_undo l D ad u_1228 w8 (z 16 0 0) (by omega) (S_u_1228.1.1)) (gR_7) rfl mk_L_110 ki_X7_undo kc_X7_undo (by decide +kernel) rfl (by decide) dL_law_1242 rfl (Nat.le_of_ble_eq_true rfl) (pI_k ?_)
                            refine g_topi (b := g) ((undo_k (m := g) hz S_u_1228.1 (by rw [S_u_1228.2.2.2.1, ← hg, Int.add_zero]) S_u_1228.2.1 S_u_1228.2.2.1).1) ?_
                            refine g_nm (P := fun u_1242 => KP z u u_1242) ((undo_k (m := g) hz S_u_1228.1 (by rw [S_u_1228.2.2.2.1, ← hg, Int.add_zero]) S_u_1228.2.1 S_u_1228.2.2.1).2) (fun u_1242 A_u_1242 => ?_)
                            have nA := A_u_1242
                            refine g_iload F dL_law_1245 19 rfl ?_
                            refine g_icmp_ne 1277 F dL_law_1247 (by omega) (by omega) rfl (fun c_17 => ?_) (fun c_17 => ?_)
                            · skip
                              exact absurd rfl c_17
                            · skip
                              refine g_sub [0, 1, 2, 3, 4, 5, 6, 7, 8, 9, 10, 11, 12, 13, 14, 15, 16, 17] (lv' := [(0, .ref b), (1, .ref (ad 7 (0))), (2, .ref (ad 41 (0))), (3, .ref (ad 42 (0))), (4, .ref (ad 43 (0))), (5, .int (J (z 10 0 0))), (6, .long (Lg (bg))), (8, .int (J (t))), (9, .int (J (xx))), (10, .int (J (z 16 0 0))), (11, .int (J (z 15 0 0))), (12, .int (J (trU z))), (13, .int (J (tcU z))), (14, .int (J (twU z))), (15, .int (J (cmB z))), (16, .int (J (clB z))), (17, .int (J (fo))), (24, .int (J (lv)))]) rfl ?_
                              exact L1250 (u_1242) (nA)
                · skip
                  refine g_iload F dL_law_1115 17 rfl ?_
                  refine g_if_lt 1208 F dL_law_1117 (by omega) rfl (fun c_18 => ?_) (fun c_18 => ?_)
                  · skip
                    exfalso; omega
                  · skip
                    obtain ⟨nv, h_nv⟩ : ∃ v, v = ndU z i := ⟨_, rfl⟩
                    have nv0 : 0 ≤ nv := by rw [h_nv]; exact nd_0 z i
                    have nv3 : z 5 i 0 + nv ≤ 3 := by rw [h_nv]; exact nd_3 h10.1 hL hi.1 (by omega)
                    have hgb := nd_g hz.1 hL hi
                    have hsal := (hz.1.2.2.2 i hi.1 (by omega)).2.2.2.2.1
                    have hgu := (hz.1.2.2.2 i hi.1 (by omega)).2.1
                    refine g_aload F dL_law_1120 4 rfl ?_
                    refine g_iload F dL_law_1122 21 rfl ?_
                    refine g_iconst F dL_law_1124 (0) (by decide) ?_
                    refine gs_43 F (by omega) dL_law_1125 ?_
                    have L1184 : ∀ (u10 : gX) (w10 : gY) (g3 : Int), SL z u i nv u10 → w10 43 i = nv → g3 = g + nv → w10 41 = y 41 → w10 42 = y 42 → gW Θ l D ad 37 1184 [(0, .ref b), (1, .ref (ad 7 (0))), (2, .ref (ad 41 (0))), (3, .ref (ad 42 (0))), (4, .ref (ad 43 (0))), (5, .int (J (z 10 0 0))), (6, .long (Lg (bg))), (8, .int (J (t))), (9, .int (J (xx))), (10, .int (J (z 16 0 0))), (11, .int (J (z 15 0 0))), (12, .int (J (trU z))), (13, .int (J (tcU z))), (14, .int (J (twU z))), (15, .int (J (cmB z))), (16, .int (J (clB z))), (17, .int (J (fo))), (24, .int (J (lv))), (25, .int (J (nd))), (27, .int (J (m))), (28, .int (J (i))), (26, .int (J (g3)))] [] u10 w10 := by
                      intro u10 w10 g3 hS10 hw10 hg3 z1 z2
                      refine g_iload F dL_law_1184 19 rfl ?_
                      refine g_aload F dL_law_1186 4 rfl ?_
                      refine g_iload F dL_law_1188 20 rfl ?_
                      refine ga_43 F (by omega) dL_law_1190 ?_
                      refine g_topi (b := nv) (hw10) ?_
                      refine g_if_le 1198 F dL_law_1191 (by omega) rfl (fun c_19 => ?_) (fun c_19 => ?_)
                      · skip
                        refine g_iconst F dL_law_1198 (0) (by decide) ?_
                        refine g_iadd F dL_law_1199 ?_
                        refine g_istore F [(27, .int (J ((m) + (0)))), (0, .ref b), (1, .ref (ad 7 (0))), (2, .ref (ad 41 (0))), (3, .ref (ad 42 (0))), (4, .ref (ad 43 (0))), (5, .int (J (z 10 0 0))), (6, .long (Lg (bg))), (8, .int (J (t))), (9, .int (J (xx))), (10, .int (J (z 16 0 0))), (11, .int (J (z 15 0 0))), (12, .int (J (trU z))), (13, .int (J (tcU z))), (14, .int (J (twU z))), (15, .int (J (cmB z))), (16, .int (J (clB z))), (17, .int (J (fo))), (24, .int (J (lv))), (25, .int (J (nd))), (28, .int (J (i))), (26, .int (J (g3)))] dL_law_1200 (by decide) rfl ?_
                        refine g_iinc F [(28, .int (J (i + 1))), (27, .int (J ((m) + (0)))), (0, .ref b), (1, .ref (ad 7 (0))), (2, .ref (ad 41 (0))), (3, .ref (ad 42 (0))), (4, .ref (ad 43 (0))), (5, .int (J (z 10 0 0))), (6, .long (Lg (bg))), (8, .int (J (t))), (9, .int (J (xx))), (10, .int (J (z 16 0 0))), (11, .int (J (z 15 0 0))), (12, .int (J (trU z))), (13, .int (J (tcU z))), (14, .int (J (twU z))), (15, .int (J (cmB z))), (16, .int (J (clB z))), (17, .int (J (fo))), (24, .int (J (lv))), (25, .int (J (nd))), (26, .int (J (g3)))] 20 rfl dL_law_1202 (by decide) rfl ?_
                        refine g_goto F 1108 dL_law_1205 rfl ?_
                        refine g_sub [2, 3, 4, 5, 6, 7, 8, 9, 10, 11, 12, 13, 14, 15, 16, 17, 18, 19, 20, 21, 1, 0] (lv' := [(0, .ref b), (1, .ref (ad 7 (0))), (2, .ref (ad 41 (0))), (3, .ref (ad 42 (0))), (4, .ref (ad 43 (0))), (5, .int (J (z 10 0 0))), (6, .long (Lg (bg))), (8, .int (J (t))), (9, .int (J (xx))), (10, .int (J (z 16 0 0))), (11, .int (J (z 15 0 0))), (12, .int (J (trU z))), (13, .int (J (tcU z))), (14, .int (J (twU z))), (15, .int (J (cmB z))), (16, .int (J (clB z))), (17, .int (J (fo))), (24, .int (J (lv))), (25, .int (J (nd))), (26, .int (J (g3))), (27, .int (J ((m) + (0)))), (28, .int (J (i + 1)))]) rfl ?_
                        exact ih1108 (u10) (w10) (g3) ((m) + (0)) (i + 1) (by omega) (SL_n hS10 hi.1 h_nv) (by rw [sumZ_s _ hi.1, ← hg]; show g3 = g + ndU z i; rw [← h_nv]; exact hg3) (by rw [sumZ_s _ hi.1, ← hm]; show _ = m + (if 0 < ndU z i then 1 else 0); rw [← h_nv]; split <;> omega) (z1) (z2) (by omega)
                      · skip
                        refine g_iconst F dL_law_1194 (1) (by decide) ?_
                        refine g_goto F 1199 dL_law_1195 rfl ?_
                        refine g_iadd F dL_law_1199 ?_
                        refine g_istore F [(27, .int (J ((m) + (1)))), (0, .ref b), (1, .ref (ad 7 (0))), (2, .ref (ad 41 (0))), (3, .ref (ad 42 (0))), (4, .ref (ad 43 (0))), (5, .int (J (z 10 0 0))), (6, .long (Lg (bg))), (8, .int (J (t))), (9, .int (J (xx))), (10, .int (J (z 16 0 0))), (11, .int (J (z 15 0 0))), (12, .int (J (trU z))), (13, .int (J (tcU z))), (14, .int (J (twU z))), (15, .int (J (cmB z))), (16, .int (J (clB z))), (17, .int (J (fo))), (24, .int (J (lv))), (25, .int (J (nd))), (28, .int (J (i))), (26, .int (J (g3)))] dL_law_1200 (by decide) rfl ?_
                        refine g_iinc F [(28, .int (J (i + 1))), (27, .int (J ((m) + (1)))), (0, .ref b), (1, .ref (ad 7 (0))), (2, .ref (ad 41 (0))), (3, .ref (ad 42 (0))), (4, .ref (ad 43 (0))), (5, .int (J (z 10 0 0))), (6, .long (Lg (bg))), (8, .int (J (t))), (9, .int (J (xx))), (10, .int (J (z 16 0 0))), (11, .int (J (z 15 0 0))), (12, .int (J (trU z))), (13, .int (J (tcU z))), (14, .int (J (twU z))), (15, .int (J (cmB z))), (16, .int (J (clB z))), (17, .int (J (fo))), (24, .int (J (lv))), (25, .int (J (nd))), (26, .int (J (g3)))] 20 rfl dL_law_1202 (by decide) rfl ?_
                        refine g_goto F 1108 dL_law_1205 rfl ?_
                        refine g_sub [2, 3, 4, 5, 6, 7, 8, 9, 10, 11, 12, 13, 14, 15, 16, 17, 18, 19, 20, 21, 1, 0] (lv' := [(0, .ref b), (1, .ref (ad 7 (0))), (2, .ref (ad 41 (0))), (3, .ref (ad 42 (0))), (4, .ref (ad 43 (0))), (5, .int (J (z 10 0 0))), (6, .long (Lg (bg))), (8, .int (J (t))), (9, .int (J (xx))), (10, .int (J (z 16 0 0))), (11, .int (J (z 15 0 0))), (12, .int (J (trU z))), (13, .int (J (tcU z))), (14, .int (J (twU z))), (15, .int (J (cmB z))), (16, .int (J (clB z))), (17, .int (J (fo))), (24, .int (J (lv))), (25, .int (J (nd))), (26, .int (J (g3))), (27, .int (J ((m) + (1)))), (28, .int (J (i + 1)))]) rfl ?_
                        exact ih1108 (u10) (w10) (g3) ((m) + (1)) (i + 1) (by omega) (SL_n hS10 hi.1 h_nv) (by rw [sumZ_s _ hi.1, ← hg]; show g3 = g + ndU z i; rw [← h_nv]; exact hg3) (by rw [sumZ_s _ hi.1, ← hm]; show _ = m + (if 0 < ndU z i then 1 else 0); rw [← h_nv]; split <;> omega) (z1) (z2) (by omega)
                    have L1126 : ∀ (N : Nat) (u9 : gX) (w9 : gY) (g2 : Int) (c : Int), 0 ≤ c ∧ c ≤ nv → SL z u i c u9 → w9 43 i = c → g2 = g + c → w9 41 = y 41 → w9 42 = y 42 → (nv - c).toNat < N → gW Θ l D ad 37 1126 [(0, .ref b), (1, .ref (ad 7 (0))), (2, .ref (ad 41 (0))), (3, .ref (ad 42 (0))), (4, .ref (ad 43 (0))), (5, .int (J (z 10 0 0))), (6, .long (Lg (bg))), (8, .int (J (t))), (9, .int (J (xx))), (10, .int (J (z 16 0 0))), (11, .int (J (z 15 0 0))), (12, .int (J (trU z))), (13, .int (J (tcU z))), (14, .int (J (twU z))), (15, .int (J (cmB z))), (16, .int (J (clB z))), (17, .int (J (fo))), (24, .int (J (lv))), (25, .int (J (nd))), (27, .int (J (m))), (28, .int (J (i))), (26, .int (J (g2)))] [] u9 w9 := by
                      intro N
                      induction N with
                      | zero => intro u9 w9 g2 c hc hS9 hw9 hg2 x1 x2 hFu; omega
                      | succ N ih1126 =>
                        intro u9 w9 g2 c hc hS9 hw9 hg2 x1 x2 hFu
                        refine g_iload F dL_law_1126 14 rfl ?_
                        refine g_iload F dL_law_1128 20 rfl ?_
                        refine g_ishr F dL_law_1130 (cmB z / p2 i) (J_shr ⟨hcm.1, by omega⟩ ⟨by omega, by omega⟩) ?_
                        refine g_iconst F dL_law_1131 (1) (by decide) ?_
                        refine g_iand F dL_law_1132 (cmB z / p2 i % 2) (J_bt ⟨hcm.1, by omega⟩ ⟨by omega, by omega⟩) ?_
                        refine g_topi (b := if z 6 i 0 = -9 ∧ vU z i (z 15 0 0) ≠ 2 then 1 else 0) (bit_of (P := fun i => z 6 i 0 = -9 ∧ vU z i (z 15 0 0) ≠ 2) hi.1 (by omega)) ?_
                        refine g_iconst F dL_law_1133 (1) (by decide) ?_
                        refine g_icmp_ne 1184 F dL_law_1134 (b01) (by decide) rfl (fun c_20 => ?_) (fun c_20 => ?_)
                        · skip
                          have hno : ¬ mbU z i := fun w => by
                            rw [if_pos ⟨w.1, cU_v w.2.2⟩] at c_20
                            exact c_20 rfl
                          have nvc : c = nv := by
                            have : nv = 0 := by rw [h_nv]; exact nd_no hno
                            omega
                          exact L1184 (u9) (w9) (g2) (by rw [← nvc]; exact hS9) (hw9.trans nvc) (by rw [← nvc]; exact hg2) (x1) (x2)
                        · skip
                          have hcome : z 6 i 0 = -9 ∧ vU z i (z 15 0 0) ≠ 2 := by
                            split at c_20
                            · assumption
                            · exact absurd c_20 (by decide)
                          refine g_aload_n F dL_law_1137 rfl 1 rfl ?_
                          refine g_iload F dL_law_1138 20 rfl ?_
                          refine g_iconst F dL_law_1140 (1) (by decide) ?_
                          refine g_callS 3 F (As := [.ref (ad 7 (0)), .int (J (i)), .int (J (1))]) (st := []) (c_L_tell l D ad u9 w9 (i) (1) (hS9.1.1) (⟨by omega, by rw [EXT_10 hS9.1]; omega⟩) (by omega)) rfl mk_L_106 ki_L_tell kc_L_tell (by decide +kernel) rfl (by decide) dL_law_1141 rfl (Nat.le_of_ble_eq_true rfl) (pI_k ?_)
                          refine g_topi (b := z 2 (i) 0) (SL_1 hS9 (by omega) (by omega)) ?_
                          refine g_nm (P := fun u_1141 => SL z u i c u_1141) (SL_tell hS9 _) (fun u_1141 S_u_1141 => ?_)
                          refine g_if_ne 1184 F dL_law_1144 (by omega) rfl (fun c_21 => ?_) (fun c_21 => ?_)
                          · skip
                            have hno : ¬ mbU z i := fun w => c_21 w.2.1
                            have nvc : c = nv := by
                              have : nv = 0 := by rw [h_nv]; exact nd_no hno
                              omega
                            exact L1184 (u_1141) (w9) (g2) (by rw [← nvc]; exact S_u_1141) (hw9.trans nvc) (by rw [← nvc]; exact hg2) (x1) (x2)
                          · skip
                            refine g_aload_n F dL_law_1147 rfl 1 rfl ?_
                            refine g_iload F dL_law_1148 20 rfl ?_
                            refine g_bipush F dL_law_1150 (6) (by decide) ?_
                            refine g_callS 3 F (As := [.ref (ad 7 (0)), .int (J (i)), .int (J (6))]) (st := []) (c_L_tell l D ad u_1141 w9 (i) (6) (S_u_1141.1.1) (⟨by omega, by rw [EXT_10 S_u_1141.1]; omega⟩) (by omega)) rfl mk_L_106 ki_L_tell kc_L_tell (by decide +kernel) rfl (by decide) dL_law_1152 rfl (Nat.le_of_ble_eq_true rfl) (pI_k ?_)
                            refine g_topi (b := if lU z i (z 15 0 0) - 2 * c ≤ 0 then 1 else 0) (SL_6 S_u_1141 (by omega) (by omega)) ?_
                            refine g_nm (P := fun u_1152 => SL z u i c u_1152) (SL_tell S_u_1141 _) (fun u_1152 S_u_1152 => ?_)
                            refine g_ifb_ne 1184 F dL_law_1155 rfl (fun c_22 => ?_) (fun c_22 => ?_)
                            · skip
                              have hmb : mbU z i := ⟨hcome.1, by assumption, v_cU hcome.2⟩
                              have nvc : c = nv := by
                                have q := nd_iff (c := c) hmb (by omega)
                                rw [← h_nv] at q
                                have q2 := mt q.mp (by omega)
                                omega
                              exact L1184 (u_1152) (w9) (g2) (by rw [← nvc]; exact S_u_1152) (hw9.trans nvc) (by rw [← nvc]; exact hg2) (x1) (x2)
                            · skip
                              have hmb : mbU z i := ⟨hcome.1, by assumption, v_cU hcome.2⟩
                              have hlt : c < nv := by
                                have q := nd_iff (c := c) hmb (by omega)
                                rw [← h_nv] at q
                                exact q.mpr (by omega)
                              refine g_aload_n F dL_law_1158 rfl 1 rfl ?_
                              refine g_iload F dL_law_1159 20 rfl ?_
                              refine g_callV 1 F (As := [.int (J (i))]) (st := []) (c_X7_salve l D ad u_1152 w9 (i) (by omega) (S_u_1152.1.1)) (gR_7) rfl mk_L_77 ki_X7_salve kc_X7_salve (by decide +kernel) rfl (by decide) dL_law_1161 rfl (Nat.le_of_ble_eq_true rfl) (pI_k ?_)
                              refine g_nm (P := fun u_1161 => SL z u i (c + 1) u_1161) ((SL_s S_u_1152 (by omega) (by omega) (by omega) hcome.1 (by omega) (by rw [S_u_1152.2.2.2.1]; omega)).2.2) (fun u_1161 S_u_1161 => ?_)
                              refine g_nmi (P := fun sv => 0 ≤ sv ∧ sv ≤ 3) (⟨(SL_s S_u_1152 (by omega) (by omega) (by omega) hcome.1 (by omega) (by rw [S_u_1152.2.2.2.1]; omega)).1, (SL_s S_u_1152 (by omega) (by omega) (by omega) hcome.1 (by omega) (by rw [S_u_1152.2.2.2.1]; omega)).2.1⟩) (fun sv h_sv => ?_)
                              refine g_if_ge 1169 F dL_law_1164 (by omega) rfl (fun c_23 => ?_) (fun c_23 => ?_)
                              · skip
                                refine g_aload F dL_law_1169 4 rfl ?_
                                refine g_iload F dL_law_1171 20 rfl ?_
                                refine g_dup2 F dL_law_1173 rfl rfl ?_
                                refine ga_43 F (by omega) dL_law_1174 ?_
                                refine g_topi (b := c) (hw9) ?_
                                refine g_iconst F dL_law_1175 (1) (by decide) ?_
                                refine g_iadd F dL_law_1176 ?_
                                refine gs_43 F (by omega) dL_law_1177 ?_
                                refine g_iinc F [(26, .int (J (g2 + 1))), (0, .ref b), (1, .ref (ad 7 (0))), (2, .ref (ad 41 (0))), (3, .ref (ad 42 (0))), (4, .ref (ad 43 (0))), (5, .int (J (z 10 0 0))), (6, .long (Lg (bg))), (8, .int (J (t))), (9, .int (J (xx))), (10, .int (J (z 16 0 0))), (11, .int (J (z 15 0 0))), (12, .int (J (trU z))), (13, .int (J (tcU z))), (14, .int (J (twU z))), (15, .int (J (cmB z))), (16, .int (J (clB z))), (17, .int (J (fo))), (24, .int (J (lv))), (25, .int (J (nd))), (27, .int (J (m))), (28, .int (J (i)))] 21 rfl dL_law_1178 (by decide) rfl ?_
                                refine g_goto F 1126 dL_law_1181 rfl ?_
                                refine g_sub [1, 2, 3, 4, 5, 6, 7, 8, 9, 10, 11, 12, 13, 14, 15, 16, 17, 18, 19, 20, 21, 0] (lv' := [(0, .ref b), (1, .ref (ad 7 (0))), (2, .ref (ad 41 (0))), (3, .ref (ad 42 (0))), (4, .ref (ad 43 (0))), (5, .int (J (z 10 0 0))), (6, .long (Lg (bg))), (8, .int (J (t))), (9, .int (J (xx))), (10, .int (J (z 16 0 0))), (11, .int (J (z 15 0 0))), (12, .int (J (trU z))), (13, .int (J (tcU z))), (14, .int (J (twU z))), (15, .int (J (cmB z))), (16, .int (J (clB z))), (17, .int (J (fo))), (24, .int (J (lv))), (25, .int (J (nd))), (27, .int (J (m))), (28, .int (J (i))), (26, .int (J (g2 + 1)))]) rfl ?_
                                exact ih1126 (u_1161) ((yU w9 43 (i) ((c) + (1)))) (g2 + 1) (c + 1) (by omega) (S_u_1161) (yU_same _ _ _ _) (by omega) ((yU_kk (by decide)).trans x1) ((yU_kk (by decide)).trans x2) (by omega)
                              · skip
                                exfalso; omega
                    refine g_sub [0, 1, 2, 3, 4, 5, 6, 7, 8, 9, 10, 11, 12, 13, 14, 15, 16, 17, 18, 20, 21, 19] (lv' := [(0, .ref b), (1, .ref (ad 7 (0))), (2, .ref (ad 41 (0))), (3, .ref (ad 42 (0))), (4, .ref (ad 43 (0))), (5, .int (J (z 10 0 0))), (6, .long (Lg (bg))), (8, .int (J (t))), (9, .int (J (xx))), (10, .int (J (z 16 0 0))), (11, .int (J (z 15 0 0))), (12, .int (J (trU z))), (13, .int (J (tcU z))), (14, .int (J (twU z))), (15, .int (J (cmB z))), (16, .int (J (clB z))), (17, .int (J (fo))), (24, .int (J (lv))), (25, .int (J (nd))), (27, .int (J (m))), (28, .int (J (i))), (26, .int (J (g)))]) rfl ?_
                    exact L1126 _ (u8) ((yU w8 43 (i) (0))) (g) (0) (by omega) (hS) (yU_same _ _ _ _) (by omega) ((yU_kk (by decide)).trans y1) ((yU_kk (by decide)).trans y2) (Nat.lt_succ_self _)
            refine g_sub [3, 4, 5, 6, 7, 8, 9, 10, 11, 12, 13, 14, 15, 16, 17, 18, 19, 20, 21, 2, 1, 0] (lv' := [(0, .ref b), (1, .ref (ad 7 (0))), (2, .ref (ad 41 (0))), (3, .ref (ad 42 (0))), (4, .ref (ad 43 (0))), (5, .int (J (z 10 0 0))), (6, .long (Lg (bg))), (8, .int (J (t))), (9, .int (J (xx))), (10, .int (J (z 16 0 0))), (11, .int (J (z 15 0 0))), (12, .int (J (trU z))), (13, .int (J (tcU z))), (14, .int (J (twU z))), (15, .int (J (cmB z))), (16, .int (J (clB z))), (17, .int (J (fo))), (24, .int (J (lv))), (25, .int (J (nd))), (26, .int (J (0))), (27, .int (J (0))), (28, .int (J (0)))]) rfl ?_
            exact L1108 _ (u_1025) (y) (0) (0) (0) (by omega) (SL_0 A_u_1025) (rfl) (rfl) (rfl) (rfl) (Nat.lt_succ_self _)
          refine g_iload F dL_law_1062 1 rfl ?_
          refine g_if_lt 1099 F dL_law_1064 (by omega) rfl (fun c_24 => ?_) (fun c_24 => ?_)
          · skip
            exfalso; omega
          · skip
            refine g_iload F dL_law_1067 0 rfl ?_
            refine g_iload F dL_law_1069 1 rfl ?_
            refine g_icmp_gt 1097 F dL_law_1071 (by omega) (by omega) rfl (fun c_25 => ?_) (fun c_25 => ?_)
            · skip
              exfalso; omega
            · skip
              refine g_iload F dL_law_1074 0 rfl ?_
              refine g_if_ne 1083 F dL_law_1076 (by omega) rfl (fun c_26 => ?_) (fun c_26 => ?_)
              · skip
                refine g_iconst F dL_law_1083 (0) (by decide) ?_
                refine g_iload F dL_law_1084 1 rfl ?_
                refine g_if_ne 1093 F dL_law_1086 (by omega) rfl (fun c_27 => ?_) (fun c_27 => ?_)
                · skip
                  refine g_iconst F dL_law_1093 (0) (by decide) ?_
                  refine g_icmp_eq 1099 F dL_law_1094 (by decide) (by decide) rfl (fun c_28 => ?_) (fun c_28 => ?_)
                  · skip
                    refine g_sub [2, 3, 4, 5, 6, 7, 8, 9, 10, 11, 12, 13, 14, 15, 16, 17, 18, 1, 0] (lv' := [(0, .ref b), (1, .ref (ad 7 (0))), (2, .ref (ad 41 (0))), (3, .ref (ad 42 (0))), (4, .ref (ad 43 (0))), (5, .int (J (z 10 0 0))), (6, .long (Lg (bg))), (8, .int (J (t))), (9, .int (J (xx))), (10, .int (J (z 16 0 0))), (11, .int (J (z 15 0 0))), (12, .int (J (trU z))), (13, .int (J (tcU z))), (14, .int (J (twU z))), (15, .int (J (cmB z))), (16, .int (J (clB z))), (17, .int (J (fo))), (24, .int (J (lv))), (25, .int (J (nd)))]) rfl ?_
                    exact L1099  
                  · skip
                    exact absurd c_28 (by decide)
                · skip
                  refine g_iconst F dL_law_1089 (1) (by decide) ?_
                  refine g_goto F 1094 dL_law_1090 rfl ?_
                  refine g_icmp_eq 1099 F dL_law_1094 (by decide) (by decide) rfl (fun c_29 => ?_) (fun c_29 => ?_)
                  · skip
                    exact absurd c_29 (by decide)
                  · skip
                    exfalso; omega
              · skip
                refine g_iconst F dL_law_1079 (1) (by decide) ?_
                refine g_goto F 1084 dL_law_1080 rfl ?_
                refine g_iload F dL_law_1084 1 rfl ?_
                refine g_if_ne 1093 F dL_law_1086 (by omega) rfl (fun c_30 => ?_) (fun c_30 => ?_)
                · skip
                  refine g_iconst F dL_law_1093 (0) (by decide) ?_
                  refine g_icmp_eq 1099 F dL_law_1094 (by decide) (by decide) rfl (fun c_31 => ?_) (fun c_31 => ?_)
                  · skip
                    exact absurd c_31 (by decide)
                  · skip
                    exfalso; omega
                · skip
                  refine g_iconst F dL_law_1089 (1) (by decide) ?_
                  refine g_goto F 1094 dL_law_1090 rfl ?_
                  refine g_icmp_eq 1099 F dL_law_1094 (by decide) (by decide) rfl (fun c_32 => ?_) (fun c_32 => ?_)
                  · skip
                    refine g_sub [2, 3, 4, 5, 6, 7, 8, 9, 10, 11, 12, 13, 14, 15, 16, 17, 18, 1, 0] (lv' := [(0, .ref b), (1, .ref (ad 7 (0))), (2, .ref (ad 41 (0))), (3, .ref (ad 42 (0))), (4, .ref (ad 43 (0))), (5, .int (J (z 10 0 0))), (6, .long (Lg (bg))), (8, .int (J (t))), (9, .int (J (xx))), (10, .int (J (z 16 0 0))), (11, .int (J (z 15 0 0))), (12, .int (J (trU z))), (13, .int (J (tcU z))), (14, .int (J (twU z))), (15, .int (J (cmB z))), (16, .int (J (clB z))), (17, .int (J (fo))), (24, .int (J (lv))), (25, .int (J (nd)))]) rfl ?_
                    exact L1099  
                  · skip
                    exact absurd c_32 (by decide)
