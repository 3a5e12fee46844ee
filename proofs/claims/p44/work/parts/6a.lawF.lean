set_option maxHeartbeats 1000000 in
set_option maxRecDepth 20000 in
theorem law_F {Θ : gT} {l : Launch} {D : gD} {ad : gA} {b : Nat} {z : gX} {bg t xx fo : Int} {u : gX} {y : gY} (F : gF Θ l D ad cL_law RL 37 20) (hz : INV z) (hn : 1 ≤ z 10 0 0) (h16 : z 16 0 0 ≤ 9) (A : KP z u u) (kk : ∀ v : gX, KP z v v → gW Θ l D ad 37 1590 [(0, .ref b), (1, .ref (ad 7 (0))), (2, .ref (ad 41 (0))), (3, .ref (ad 42 (0))), (4, .ref (ad 43 (0))), (5, .int (J (z 10 0 0))), (6, .long (Lg (bg))), (8, .int (J (t))), (9, .int (J (xx))), (10, .int (J (z 16 0 0))), (11, .int (J (z 15 0 0))), (12, .int (J (trU z))), (13, .int (J (tcU z))), (14, .int (J (twU z))), (15, .int (J (cmB z))), (16, .int (J (clB z))), (17, .int (J (fo)))] [] v y) : gW Θ l D ad 37 1304 [(0, .ref b), (1, .ref (ad 7 (0))), (2, .ref (ad 41 (0))), (3, .ref (ad 42 (0))), (4, .ref (ad 43 (0))), (5, .int (J (z 10 0 0))), (6, .long (Lg (bg))), (8, .int (J (t))), (9, .int (J (xx))), (10, .int (J (z 16 0 0))), (11, .int (J (z 15 0 0))), (12, .int (J (trU z))), (13, .int (J (tcU z))), (14, .int (J (twU z))), (15, .int (J (cmB z))), (16, .int (J (clB z))), (17, .int (J (fo)))] [] u y := by
  have h10 := hz.1.2.1
  have h15 := hz.1.2.2.1
  have h160 := hz.2.2.1.1.1
  have htr := trU_r hz.1
  have hcm := cmB_r hz.1
  have hcl := clB_r hz.1
  have htc := tc_r hz.1
  have htw := tw_r hz.1
  refine g_aload_n F dL_law_1304 rfl 1 rfl ?_
  refine g_iconst F dL_law_1305 (3) (by decide) ?_
  refine g_iconst F dL_law_1306 (4) (by decide) ?_
  refine g_callV 2 F (As := [.int (J (3)), .int (J (4))]) (st := []) (c_X7_row l D ad u y (3) (4) (by omega) (by omega) (KP_I A)) (gR_7) rfl mk_L_141 ki_X7_row kc_X7_row (by decide +kernel) rfl (by decide) dL_law_1307 rfl (Nat.le_of_ble_eq_true rfl) (pI_k ?_)
  refine g_topi (b := 4) ((row_k A (R := 3) (n := 4) (by decide) (by decide)).1) ?_
  refine g_nm (P := fun u_1307 => KP z u_1307 u_1307 ∧ u_1307 17 3 0 = 4) ((row_k A (R := 3) (n := 4) (by decide) (by decide)).2) (fun u_1307 ⟨A_u_1307, w17⟩ => ?_)
  refine g_iconst F dL_law_1310 (4) (by decide) ?_
  refine g_icmp_eq 1316 F dL_law_1311 (by decide) (by decide) rfl (fun c_1 => ?_) (fun c_1 => ?_)
  · skip
    refine g_iconst F dL_law_1316 (0) (by decide) ?_
    refine g_istore F [(28, .int (J (0))), (0, .ref b), (1, .ref (ad 7 (0))), (2, .ref (ad 41 (0))), (3, .ref (ad 42 (0))), (4, .ref (ad 43 (0))), (5, .int (J (z 10 0 0))), (6, .long (Lg (bg))), (8, .int (J (t))), (9, .int (J (xx))), (10, .int (J (z 16 0 0))), (11, .int (J (z 15 0 0))), (12, .int (J (trU z))), (13, .int (J (tcU z))), (14, .int (J (twU z))), (15, .int (J (cmB z))), (16, .int (J (clB z))), (17, .int (J (fo)))] dL_law_1317 (by decide) rfl ?_
    have L1319 : ∀ (N : Nat) (u12 : gX) (k : Int), 0 ≤ k ∧ k ≤ 2 → KP z u12 u12 → u12 17 3 0 = 4 → PR z u12 k → (2 - k).toNat < N → gW Θ l D ad 37 1319 [(0, .ref b), (1, .ref (ad 7 (0))), (2, .ref (ad 41 (0))), (3, .ref (ad 42 (0))), (4, .ref (ad 43 (0))), (5, .int (J (z 10 0 0))), (6, .long (Lg (bg))), (8, .int (J (t))), (9, .int (J (xx))), (10, .int (J (z 16 0 0))), (11, .int (J (z 15 0 0))), (12, .int (J (trU z))), (13, .int (J (tcU z))), (14, .int (J (twU z))), (15, .int (J (cmB z))), (16, .int (J (clB z))), (17, .int (J (fo))), (28, .int (J (k)))] [] u12 y := by
      intro N
      induction N with
      | zero => intro u12 k hk A12 w12 hp hFu; omega
      | succ N ih1319 =>
        intro u12 k hk A12 w12 hp hFu
        refine g_iload F dL_law_1319 17 rfl ?_
        refine g_iconst F dL_law_1321 (2) (by decide) ?_
        refine g_icmp_ge 1399 F dL_law_1322 (by omega) (by decide) rfl (fun c_2 => ?_) (fun c_2 => ?_)
        · skip
          have ek : k = 2 := by omega
          have hp2 : PR z u12 2 := by rw [← ek]; exact hp
          refine g_aload_n F dL_law_1399 rfl 1 rfl ?_
          refine g_iconst F dL_law_1400 (3) (by decide) ?_
          refine g_callV 1 F (As := [.int (J (3))]) (st := []) (c_X7_fits l D ad u12 y (3) (by omega) (KP_I A12)) (gR_7) rfl mk_L_153 ki_X7_fits kc_X7_fits (by decide +kernel) rfl (by decide) dL_law_1401 rfl (Nat.le_of_ble_eq_true rfl) (pI_k ?_)
          refine g_topi (b := FTZ z u12) ((fits_k A12 hn w12 hp2).1) ?_
          refine g_nm (P := fun u_1401 => KP z u12 u_1401 ∧ u_1401 19 0 0 = pcZ (FTZ z u12)) ((fits_k (KP_re A12) hn w12 hp2).2) (fun u_1401 ⟨A_u_1401, T_u_1401⟩ => ?_)
          refine g_nmi (P := fun ft => ft = FTZ z u12) (rfl) (fun ft h_ft => ?_)
          have fr := ft_r z u12
          rw [← h_ft] at fr
          have fa := ft_at h15 hp2
          rw [← h_ft] at fa
          have hf0 : ft ≠ 0 := by
            intro c
            rw [c, Int.zero_ediv] at fa
            exact absurd fa (by decide)
          have ak := ak_f hn ft
          have pr := pc_r ft
          refine g_istore F [(28, .int (J (ft))), (0, .ref b), (1, .ref (ad 7 (0))), (2, .ref (ad 41 (0))), (3, .ref (ad 42 (0))), (4, .ref (ad 43 (0))), (5, .int (J (z 10 0 0))), (6, .long (Lg (bg))), (8, .int (J (t))), (9, .int (J (xx))), (10, .int (J (z 16 0 0))), (11, .int (J (z 15 0 0))), (12, .int (J (trU z))), (13, .int (J (tcU z))), (14, .int (J (twU z))), (15, .int (J (cmB z))), (16, .int (J (clB z))), (17, .int (J (fo)))] dL_law_1404 (by decide) rfl ?_
          refine g_aload_n F dL_law_1406 rfl 2 rfl ?_
          refine g_callV 0 F (As := []) (st := []) (c_X7_asked l D ad u_1401 y  ) (gR_7) rfl mk_L_73 ki_X7_asked kc_X7_asked (by decide +kernel) rfl (by decide) dL_law_1407 rfl (Nat.le_of_ble_eq_true rfl) (pI_k ?_)
          refine g_topi (b := pcZ ft) (by rw [h_ft]; exact T_u_1401) ?_
          refine g_nmi (P := fun so => so = pcZ ft) (rfl) (fun so h_so => ?_)
          refine g_istore F [(29, .int (J (so))), (28, .int (J (ft))), (0, .ref b), (1, .ref (ad 7 (0))), (2, .ref (ad 41 (0))), (3, .ref (ad 42 (0))), (4, .ref (ad 43 (0))), (5, .int (J (z 10 0 0))), (6, .long (Lg (bg))), (8, .int (J (t))), (9, .int (J (xx))), (10, .int (J (z 16 0 0))), (11, .int (J (z 15 0 0))), (12, .int (J (trU z))), (13, .int (J (tcU z))), (14, .int (J (twU z))), (15, .int (J (cmB z))), (16, .int (J (clB z))), (17, .int (J (fo)))] dL_law_1410 (by decide) rfl ?_
          refine g_aload_n F dL_law_1412 rfl 3 rfl ?_
          refine g_iconst F dL_law_1413 (3) (by decide) ?_
          refine g_callV 1 F (As := [.int (J (3))]) (st := []) (c_X7_ask l D ad u_1401 y (3) (by omega) (KP_I A_u_1401)) (gR_7) rfl mk_L_156 ki_X7_ask kc_X7_ask (by decide +kernel) rfl (by decide) dL_law_1414 rfl (Nat.le_of_ble_eq_true rfl) (pI_k ?_)
          refine g_topi (b := (akB z ft).1) (by rw [h_ft]; exact (ask_k A_u_1401 hn w12 hp2 (by rw [← h_ft]; exact hf0)).1) ?_
          refine g_nm (P := fun u_1414 => KP z u12 u_1414 ∧ u_1414 19 0 0 = (akB z ft).2) (by rw [h_ft]; exact (ask_k A_u_1401 hn w12 hp2 (by rw [← h_ft]; exact hf0)).2) (fun u_1414 ⟨A_u_1414, T_u_1414⟩ => ?_)
          refine g_nmi (P := fun ak1 => ak1 = (akB z ft).1) (rfl) (fun ak1 h_ak1 => ?_)
          refine g_istore F [(30, .int (J (ak1))), (29, .int (J (so))), (28, .int (J (ft))), (0, .ref b), (1, .ref (ad 7 (0))), (2, .ref (ad 41 (0))), (3, .ref (ad 42 (0))), (4, .ref (ad 43 (0))), (5, .int (J (z 10 0 0))), (6, .long (Lg (bg))), (8, .int (J (t))), (9, .int (J (xx))), (10, .int (J (z 16 0 0))), (11, .int (J (z 15 0 0))), (12, .int (J (trU z))), (13, .int (J (tcU z))), (14, .int (J (twU z))), (15, .int (J (cmB z))), (16, .int (J (clB z))), (17, .int (J (fo)))] dL_law_1417 (by decide) rfl ?_
          refine g_aload_n F dL_law_1419 rfl 4 rfl ?_
          refine g_callV 0 F (As := []) (st := []) (c_X7_asked l D ad u_1414 y  ) (gR_7) rfl mk_L_73 ki_X7_asked kc_X7_asked (by decide +kernel) rfl (by decide) dL_law_1420 rfl (Nat.le_of_ble_eq_true rfl) (pI_k ?_)
          refine g_topi (b := (akB z ft).2) (T_u_1414) ?_
          refine g_nmi (P := fun pa => pa = (akB z ft).2) (rfl) (fun pa h_pa => ?_)
          rw [← h_ak1, ← h_pa] at ak
          obtain ⟨ak1r, ak2, ak3, ak4⟩ := ak
          have gf := gp_f (z := z) (i := ak1) h15 fa
          rw [← ak2, ← h_so] at gf
          rw [← h_so] at pr
          refine g_istore F [(31, .int (J (pa))), (30, .int (J (ak1))), (29, .int (J (so))), (28, .int (J (ft))), (0, .ref b), (1, .ref (ad 7 (0))), (2, .ref (ad 41 (0))), (3, .ref (ad 42 (0))), (4, .ref (ad 43 (0))), (5, .int (J (z 10 0 0))), (6, .long (Lg (bg))), (8, .int (J (t))), (9, .int (J (xx))), (10, .int (J (z 16 0 0))), (11, .int (J (z 15 0 0))), (12, .int (J (trU z))), (13, .int (J (tcU z))), (14, .int (J (twU z))), (15, .int (J (cmB z))), (16, .int (J (clB z))), (17, .int (J (fo)))] dL_law_1423 (by decide) rfl ?_
          refine g_iload F dL_law_1425 3 rfl ?_
          refine g_iload F dL_law_1427 14 rfl ?_
          refine g_ishr F dL_law_1429 (ft / p2 (z 15 0 0)) (J_shr fr ⟨by omega, by omega⟩) ?_
          refine g_iconst F dL_law_1430 (1) (by decide) ?_
          refine g_iand F dL_law_1431 (1) (by rw [J_bt fr ⟨by omega, by omega⟩, fa]) ?_
          refine g_iconst F dL_law_1432 (1) (by decide) ?_
          refine g_icmp_ne 1471 F dL_law_1433 (by decide) (by decide) rfl (fun c_3 => ?_) (fun c_3 => ?_)
          · skip
            exact absurd c_3 (by decide)
          · skip
            refine g_iload F dL_law_1436 2 rfl ?_
            refine g_iload F dL_law_1438 3 rfl ?_
            refine g_callS 1 F (As := [.int (J (ft))]) (st := [.int (J (so))]) (c_L_bits l D ad u_1414 y (ft) (by omega)) rfl mk_L_132 ki_L_bits kc_L_bits (by decide +kernel) rfl (by decide) dL_law_1440 rfl (Nat.le_of_ble_eq_true rfl) (pI_k ?_)
            refine g_topi (b := so) (h_so.symm) ?_
            refine g_icmp_ne 1471 F dL_law_1443 (by omega) (by omega) rfl (fun c_4 => ?_) (fun c_4 => ?_)
            · skip
              exact absurd rfl c_4
            · skip
              refine g_iload F dL_law_1446 1 rfl ?_
              refine g_if_lt 1471 F dL_law_1448 (by omega) rfl (fun c_5 => ?_) (fun c_5 => ?_)
              · skip
                exfalso; omega
              · skip
                refine g_iload F dL_law_1451 1 rfl ?_
                refine g_iload F dL_law_1453 9 rfl ?_
                refine g_icmp_ge 1471 F dL_law_1455 (by omega) (by omega) rfl (fun c_6 => ?_) (fun c_6 => ?_)
                · skip
                  exfalso; omega
                · skip
                  refine g_iload F dL_law_1458 0 rfl ?_
                  refine g_iconst F dL_law_1460 (1) (by decide) ?_
                  refine g_icmp_lt 1471 F dL_law_1461 (by omega) (by decide) rfl (fun c_7 => ?_) (fun c_7 => ?_)
                  · skip
                    exfalso; omega
                  · skip
                    refine g_iload F dL_law_1464 0 rfl ?_
                    refine g_iload F dL_law_1466 2 rfl ?_
                    refine g_icmp_le 1473 F dL_law_1468 (by omega) (by omega) rfl (fun c_8 => ?_) (fun c_8 => ?_)
                    · skip
                      refine g_iconst F dL_law_1473 (0) (by decide) ?_
                      refine g_istore F [(32, .int (J (0))), (31, .int (J (pa))), (30, .int (J (ak1))), (29, .int (J (so))), (28, .int (J (ft))), (0, .ref b), (1, .ref (ad 7 (0))), (2, .ref (ad 41 (0))), (3, .ref (ad 42 (0))), (4, .ref (ad 43 (0))), (5, .int (J (z 10 0 0))), (6, .long (Lg (bg))), (8, .int (J (t))), (9, .int (J (xx))), (10, .int (J (z 16 0 0))), (11, .int (J (z 15 0 0))), (12, .int (J (trU z))), (13, .int (J (tcU z))), (14, .int (J (twU z))), (15, .int (J (cmB z))), (16, .int (J (clB z))), (17, .int (J (fo)))] dL_law_1474 (by decide) rfl ?_
                      refine g_iconst F dL_law_1476 (0) (by decide) ?_
                      refine g_istore F [(33, .int (J (0))), (32, .int (J (0))), (31, .int (J (pa))), (30, .int (J (ak1))), (29, .int (J (so))), (28, .int (J (ft))), (0, .ref b), (1, .ref (ad 7 (0))), (2, .ref (ad 41 (0))), (3, .ref (ad 42 (0))), (4, .ref (ad 43 (0))), (5, .int (J (z 10 0 0))), (6, .long (Lg (bg))), (8, .int (J (t))), (9, .int (J (xx))), (10, .int (J (z 16 0 0))), (11, .int (J (z 15 0 0))), (12, .int (J (trU z))), (13, .int (J (tcU z))), (14, .int (J (twU z))), (15, .int (J (cmB z))), (16, .int (J (clB z))), (17, .int (J (fo)))] dL_law_1477 (by decide) rfl ?_
                      have L1479 : ∀ (N : Nat) (u14 : gX) (wd : Int) (i : Int), 0 ≤ i ∧ i ≤ z 10 0 0 → KP z u12 u14 → (wd = if ak1 < i then pa else 0) → (z 10 0 0 - i).toNat < N → gW Θ l D ad 37 1479 [(0, .ref b), (1, .ref (ad 7 (0))), (2, .ref (ad 41 (0))), (3, .ref (ad 42 (0))), (4, .ref (ad 43 (0))), (5, .int (J (z 10 0 0))), (6, .long (Lg (bg))), (8, .int (J (t))), (9, .int (J (xx))), (10, .int (J (z 16 0 0))), (11, .int (J (z 15 0 0))), (12, .int (J (trU z))), (13, .int (J (tcU z))), (14, .int (J (twU z))), (15, .int (J (cmB z))), (16, .int (J (clB z))), (17, .int (J (fo))), (28, .int (J (ft))), (29, .int (J (so))), (30, .int (J (ak1))), (31, .int (J (pa))), (32, .int (J (wd))), (33, .int (J (i)))] [] u14 y := by
                        intro N
                        induction N with
                        | zero => intro u14 wd i hi A14 hw hFu; omega
                        | succ N ih1479 =>
                          intro u14 wd i hi A14 hw hFu
                          refine g_iload F dL_law_1479 22 rfl ?_
                          refine g_iload F dL_law_1481 5 rfl ?_
                          refine g_icmp_ge 1581 F dL_law_1483 (by omega) (by omega) rfl (fun c_9 => ?_) (fun c_9 => ?_)
                          · skip
                            have ei : i = z 10 0 0 := by omega
                            rw [if_pos (by omega)] at hw
                            refine g_iload F dL_law_1581 21 rfl ?_
                            refine g_iload F dL_law_1583 20 rfl ?_
                            refine g_icmp_eq 1590 F dL_law_1585 (by omega) (by omega) rfl (fun c_10 => ?_) (fun c_10 => ?_)
                            · skip
                              refine g_sub [0, 1, 2, 3, 4, 5, 6, 7, 8, 9, 10, 11, 12, 13, 14, 15, 16] (lv' := [(0, .ref b), (1, .ref (ad 7 (0))), (2, .ref (ad 41 (0))), (3, .ref (ad 42 (0))), (4, .ref (ad 43 (0))), (5, .int (J (z 10 0 0))), (6, .long (Lg (bg))), (8, .int (J (t))), (9, .int (J (xx))), (10, .int (J (z 16 0 0))), (11, .int (J (z 15 0 0))), (12, .int (J (trU z))), (13, .int (J (tcU z))), (14, .int (J (twU z))), (15, .int (J (cmB z))), (16, .int (J (clB z))), (17, .int (J (fo)))]) rfl ?_
                              exact kk _ (KP_re A14)
                            · skip
                              exfalso; omega
                          · skip
                            refine g_iconst F dL_law_1486 (0) (by decide) ?_
                            refine g_istore F [(34, .int (J (0))), (0, .ref b), (1, .ref (ad 7 (0))), (2, .ref (ad 41 (0))), (3, .ref (ad 42 (0))), (4, .ref (ad 43 (0))), (5, .int (J (z 10 0 0))), (6, .long (Lg (bg))), (8, .int (J (t))), (9, .int (J (xx))), (10, .int (J (z 16 0 0))), (11, .int (J (z 15 0 0))), (12, .int (J (trU z))), (13, .int (J (tcU z))), (14, .int (J (twU z))), (15, .int (J (cmB z))), (16, .int (J (clB z))), (17, .int (J (fo))), (28, .int (J (ft))), (29, .int (J (so))), (30, .int (J (ak1))), (31, .int (J (pa))), (32, .int (J (wd))), (33, .int (J (i)))] dL_law_1487 (by decide) rfl ?_
                            refine g_iconst F dL_law_1489 (0) (by decide) ?_
                            refine g_istore F [(35, .int (J (0))), (34, .int (J (0))), (0, .ref b), (1, .ref (ad 7 (0))), (2, .ref (ad 41 (0))), (3, .ref (ad 42 (0))), (4, .ref (ad 43 (0))), (5, .int (J (z 10 0 0))), (6, .long (Lg (bg))), (8, .int (J (t))), (9, .int (J (xx))), (10, .int (J (z 16 0 0))), (11, .int (J (z 15 0 0))), (12, .int (J (trU z))), (13, .int (J (tcU z))), (14, .int (J (twU z))), (15, .int (J (cmB z))), (16, .int (J (clB z))), (17, .int (J (fo))), (28, .int (J (ft))), (29, .int (J (so))), (30, .int (J (ak1))), (31, .int (J (pa))), (32, .int (J (wd))), (33, .int (J (i)))] dL_law_1490 (by decide) rfl ?_
                            have L1492 : ∀ (N : Nat) (u15 : gX) (mo : Int) (v : Int), 0 ≤ v ∧ v ≤ 3 → KP z u12 u15 → mo = mxZ (fun v => ctZ z ft i v) v → 0 ≤ mo ∧ mo ≤ 31 → (3 - v).toNat < N → gW Θ l D ad 37 1492 [(0, .ref b), (1, .ref (ad 7 (0))), (2, .ref (ad 41 (0))), (3, .ref (ad 42 (0))), (4, .ref (ad 43 (0))), (5, .int (J (z 10 0 0))), (6, .long (Lg (bg))), (8, .int (J (t))), (9, .int (J (xx))), (10, .int (J (z 16 0 0))), (11, .int (J (z 15 0 0))), (12, .int (J (trU z))), (13, .int (J (tcU z))), (14, .int (J (twU z))), (15, .int (J (cmB z))), (16, .int (J (clB z))), (17, .int (J (fo))), (28, .int (J (ft))), (29, .int (J (so))), (30, .int (J (ak1))), (31, .int (J (pa))), (32, .int (J (wd))), (33, .int (J (i))), (34, .int (J (mo))), (35, .int (J (v)))] [] u15 y := by
                              intro N
                              induction N with
                              | zero => intro u15 mo v hv A15 hm hmr hFu; omega
                              | succ N ih1492 =>
                                intro u15 mo v hv A15 hm hmr hFu
                                refine g_iload F dL_law_1492 24 rfl ?_
                                refine g_iconst F dL_law_1494 (3) (by decide) ?_
                                refine g_icmp_ge 1536 F dL_law_1495 (by omega) (by decide) rfl (fun c_11 => ?_) (fun c_11 => ?_)
                                · skip
                                  have ev : v = 3 := by omega
                                  have em : mo = gpU z i ft := by rw [hm, ev]
                                  have g4 := ak4 i hi.1 (by omega)
                                  have gr := gp_f (z := z) (i := i) h15 fa
                                  rw [← em] at g4 gr
                                  refine g_iload F dL_law_1536 23 rfl ?_
                                  refine g_iload F dL_law_1538 20 rfl ?_
                                  refine g_icmp_lt 1557 F dL_law_1540 (by omega) (by omega) rfl (fun c_12 => ?_) (fun c_12 => ?_)
                                  · skip
                                    exfalso; omega
                                  · skip
                                    refine g_iload F dL_law_1543 22 rfl ?_
                                    refine g_iload F dL_law_1545 19 rfl ?_
                                    refine g_icmp_ge 1559 F dL_law_1547 (by omega) (by omega) rfl (fun c_13 => ?_) (fun c_13 => ?_)
                                    · skip
                                      refine g_iload F dL_law_1559 22 rfl ?_
                                      refine g_iload F dL_law_1561 19 rfl ?_
                                      refine g_icmp_ne 1571 F dL_law_1563 (by omega) (by omega) rfl (fun c_14 => ?_) (fun c_14 => ?_)
                                      · skip
                                        refine g_iload F dL_law_1571 21 rfl ?_
                                        refine g_istore F [(32, .int (J (wd))), (0, .ref b), (1, .ref (ad 7 (0))), (2, .ref (ad 41 (0))), (3, .ref (ad 42 (0))), (4, .ref (ad 43 (0))), (5, .int (J (z 10 0 0))), (6, .long (Lg (bg))), (8, .int (J (t))), (9, .int (J (xx))), (10, .int (J (z 16 0 0))), (11, .int (J (z 15 0 0))), (12, .int (J (trU z))), (13, .int (J (tcU z))), (14, .int (J (twU z))), (15, .int (J (cmB z))), (16, .int (J (clB z))), (17, .int (J (fo))), (28, .int (J (ft))), (29, .int (J (so))), (30, .int (J (ak1))), (31, .int (J (pa))), (33, .int (J (i))), (34, .int (J (mo))), (35, .int (J (v)))] dL_law_1573 (by decide) rfl ?_
                                        refine g_iinc F [(33, .int (J (i + 1))), (32, .int (J (wd))), (0, .ref b), (1, .ref (ad 7 (0))), (2, .ref (ad 41 (0))), (3, .ref (ad 42 (0))), (4, .ref (ad 43 (0))), (5, .int (J (z 10 0 0))), (6, .long (Lg (bg))), (8, .int (J (t))), (9, .int (J (xx))), (10, .int (J (z 16 0 0))), (11, .int (J (z 15 0 0))), (12, .int (J (trU z))), (13, .int (J (tcU z))), (14, .int (J (twU z))), (15, .int (J (cmB z))), (16, .int (J (clB z))), (17, .int (J (fo))), (28, .int (J (ft))), (29, .int (J (so))), (30, .int (J (ak1))), (31, .int (J (pa))), (34, .int (J (mo))), (35, .int (J (v)))] 22 rfl dL_law_1575 (by decide) rfl ?_
                                        refine g_goto F 1479 dL_law_1578 rfl ?_
                                        refine g_sub [2, 3, 4, 5, 6, 7, 8, 9, 10, 11, 12, 13, 14, 15, 16, 17, 18, 19, 20, 21, 22, 1, 0] (lv' := [(0, .ref b), (1, .ref (ad 7 (0))), (2, .ref (ad 41 (0))), (3, .ref (ad 42 (0))), (4, .ref (ad 43 (0))), (5, .int (J (z 10 0 0))), (6, .long (Lg (bg))), (8, .int (J (t))), (9, .int (J (xx))), (10, .int (J (z 16 0 0))), (11, .int (J (z 15 0 0))), (12, .int (J (trU z))), (13, .int (J (tcU z))), (14, .int (J (twU z))), (15, .int (J (cmB z))), (16, .int (J (clB z))), (17, .int (J (fo))), (28, .int (J (ft))), (29, .int (J (so))), (30, .int (J (ak1))), (31, .int (J (pa))), (32, .int (J (wd))), (33, .int (J (i + 1)))]) rfl ?_
                                        exact ih1479 (u15) (wd) (i + 1) (by omega) (A15) (by (repeat' split) <;> (first | omega | (rw [hw]; split <;> omega))) (by omega)
                                      · skip
                                        have emp : mo = pa := by rw [em, ak2, c_14]
                                        refine g_iload F dL_law_1566 23 rfl ?_
                                        refine g_goto F 1573 dL_law_1568 rfl ?_
                                        refine g_istore F [(32, .int (J (mo))), (0, .ref b), (1, .ref (ad 7 (0))), (2, .ref (ad 41 (0))), (3, .ref (ad 42 (0))), (4, .ref (ad 43 (0))), (5, .int (J (z 10 0 0))), (6, .long (Lg (bg))), (8, .int (J (t))), (9, .int (J (xx))), (10, .int (J (z 16 0 0))), (11, .int (J (z 15 0 0))), (12, .int (J (trU z))), (13, .int (J (tcU z))), (14, .int (J (twU z))), (15, .int (J (cmB z))), (16, .int (J (clB z))), (17, .int (J (fo))), (28, .int (J (ft))), (29, .int (J (so))), (30, .int (J (ak1))), (31, .int (J (pa))), (33, .int (J (i))), (34, .int (J (mo))), (35, .int (J (v)))] dL_law_1573 (by decide) rfl ?_
                                        refine g_iinc F [(33, .int (J (i + 1))), (32, .int (J (mo))), (0, .ref b), (1, .ref (ad 7 (0))), (2, .ref (ad 41 (0))), (3, .ref (ad 42 (0))), (4, .ref (ad 43 (0))), (5, .int (J (z 10 0 0))), (6, .long (Lg (bg))), (8, .int (J (t))), (9, .int (J (xx))), (10, .int (J (z 16 0 0))), (11, .int (J (z 15 0 0))), (12, .int (J (trU z))), (13, .int (J (tcU z))), (14, .int (J (twU z))), (15, .int (J (cmB z))), (16, .int (J (clB z))), (17, .int (J (fo))), (28, .int (J (ft))), (29, .int (J (so))), (30, .int (J (ak1))), (31, .int (J (pa))), (34, .int (J (mo))), (35, .int (J (v)))] 22 rfl dL_law_1575 (by decide) rfl ?_
                                        refine g_goto F 1479 dL_law_1578 rfl ?_
                                        refine g_sub [2, 3, 4, 5, 6, 7, 8, 9, 10, 11, 12, 13, 14, 15, 16, 17, 18, 19, 20, 21, 22, 1, 0] (lv' := [(0, .ref b), (1, .ref (ad 7 (0))), (2, .ref (ad 41 (0))), (3, .ref (ad 42 (0))), (4, .ref (ad 43 (0))), (5, .int (J (z 10 0 0))), (6, .long (Lg (bg))), (8, .int (J (t))), (9, .int (J (xx))), (10, .int (J (z 16 0 0))), (11, .int (J (z 15 0 0))), (12, .int (J (trU z))), (13, .int (J (tcU z))), (14, .int (J (twU z))), (15, .int (J (cmB z))), (16, .int (J (clB z))), (17, .int (J (fo))), (28, .int (J (ft))), (29, .int (J (so))), (30, .int (J (ak1))), (31, .int (J (pa))), (32, .int (J (mo))), (33, .int (J (i + 1)))]) rfl ?_
                                        exact ih1479 (u15) (mo) (i + 1) (by omega) (A15) (by (repeat' split) <;> (first | omega | (rw [hw]; split <;> omega))) (by omega)
                                    · skip
                                      refine g_iload F dL_law_1550 23 rfl ?_
                                      refine g_iload F dL_law_1552 20 rfl ?_
                                      refine g_icmp_ne 1559 F dL_law_1554 (by omega) (by omega) rfl (fun c_15 => ?_) (fun c_15 => ?_)
                                      · skip
                                        refine g_iload F dL_law_1559 22 rfl ?_
                                        refine g_iload F dL_law_1561 19 rfl ?_
                                        refine g_icmp_ne 1571 F dL_law_1563 (by omega) (by omega) rfl (fun c_16 => ?_) (fun c_16 => ?_)
                                        · skip
                                          refine g_iload F dL_law_1571 21 rfl ?_
                                          refine g_istore F [(32, .int (J (wd))), (0, .ref b), (1, .ref (ad 7 (0))), (2, .ref (ad 41 (0))), (3, .ref (ad 42 (0))), (4, .ref (ad 43 (0))), (5, .int (J (z 10 0 0))), (6, .long (Lg (bg))), (8, .int (J (t))), (9, .int (J (xx))), (10, .int (J (z 16 0 0))), (11, .int (J (z 15 0 0))), (12, .int (J (trU z))), (13, .int (J (tcU z))), (14, .int (J (twU z))), (15, .int (J (cmB z))), (16, .int (J (clB z))), (17, .int (J (fo))), (28, .int (J (ft))), (29, .int (J (so))), (30, .int (J (ak1))), (31, .int (J (pa))), (33, .int (J (i))), (34, .int (J (mo))), (35, .int (J (v)))] dL_law_1573 (by decide) rfl ?_
                                          refine g_iinc F [(33, .int (J (i + 1))), (32, .int (J (wd))), (0, .ref b), (1, .ref (ad 7 (0))), (2, .ref (ad 41 (0))), (3, .ref (ad 42 (0))), (4, .ref (ad 43 (0))), (5, .int (J (z 10 0 0))), (6, .long (Lg (bg))), (8, .int (J (t))), (9, .int (J (xx))), (10, .int (J (z 16 0 0))), (11, .int (J (z 15 0 0))), (12, .int (J (trU z))), (13, .int (J (tcU z))), (14, .int (J (twU z))), (15, .int (J (cmB z))), (16, .int (J (clB z))), (17, .int (J (fo))), (28, .int (J (ft))), (29, .int (J (so))), (30, .int (J (ak1))), (31, .int (J (pa))), (34, .int (J (mo))), (35, .int (J (v)))] 22 rfl dL_law_1575 (by decide) rfl ?_
                                          refine g_goto F 1479 dL_law_1578 rfl ?_
                                          refine g_sub [2, 3, 4, 5, 6, 7, 8, 9, 10, 11, 12, 13, 14, 15, 16, 17, 18, 19, 20, 21, 22, 1, 0] (lv' := [(0, .ref b), (1, .ref (ad 7 (0))), (2, .ref (ad 41 (0))), (3, .ref (ad 42 (0))), (4, .ref (ad 43 (0))), (5, .int (J (z 10 0 0))), (6, .long (Lg (bg))), (8, .int (J (t))), (9, .int (J (xx))), (10, .int (J (z 16 0 0))), (11, .int (J (z 15 0 0))), (12, .int (J (trU z))), (13, .int (J (tcU z))), (14, .int (J (twU z))), (15, .int (J (cmB z))), (16, .int (J (clB z))), (17, .int (J (fo))), (28, .int (J (ft))), (29, .int (J (so))), (30, .int (J (ak1))), (31, .int (J (pa))), (32, .int (J (wd))), (33, .int (J (i + 1)))]) rfl ?_
                                          exact ih1479 (u15) (wd) (i + 1) (by omega) (A15) (by (repeat' split) <;> (first | omega | (rw [hw]; split <;> omega))) (by omega)
                                        · skip
                                          have emp : mo = pa := by rw [em, ak2, c_16]
                                          refine g_iload F dL_law_1566 23 rfl ?_
                                          refine g_goto F 1573 dL_law_1568 rfl ?_
                                          refine g_istore F [(32, .int (J (mo))), (0, .ref b), (1, .ref (ad 7 (0))), (2, .ref (ad 41 (0))), (3, .ref (ad 42 (0))), (4, .ref (ad 43 (0))), (5, .int (J (z 10 0 0))), (6, .long (Lg (bg))), (8, .int (J (t))), (9, .int (J (xx))), (10, .int (J (z 16 0 0))), (11, .int (J (z 15 0 0))), (12, .int (J (trU z))), (13, .int (J (tcU z))), (14, .int (J (twU z))), (15, .int (J (cmB z))), (16, .int (J (clB z))), (17, .int (J (fo))), (28, .int (J (ft))), (29, .int (J (so))), (30, .int (J (ak1))), (31, .int (J (pa))), (33, .int (J (i))), (34, .int (J (mo))), (35, .int (J (v)))] dL_law_1573 (by decide) rfl ?_
                                          refine g_iinc F [(33, .int (J (i + 1))), (32, .int (J (mo))), (0, .ref b), (1, .ref (ad 7 (0))), (2, .ref (ad 41 (0))), (3, .ref (ad 42 (0))), (4, .ref (ad 43 (0))), (5, .int (J (z 10 0 0))), (6, .long (Lg (bg))), (8, .int (J (t))), (9, .int (J (xx))), (10, .int (J (z 16 0 0))), (11, .int (J (z 15 0 0))), (12, .int (J (trU z))), (13, .int (J (tcU z))), (14, .int (J (twU z))), (15, .int (J (cmB z))), (16, .int (J (clB z))), (17, .int (J (fo))), (28, .int (J (ft))), (29, .int (J (so))), (30, .int (J (ak1))), (31, .int (J (pa))), (34, .int (J (mo))), (35, .int (J (v)))] 22 rfl dL_law_1575 (by decide) rfl ?_
                                          refine g_goto F 1479 dL_law_1578 rfl ?_
                                          refine g_sub [2, 3, 4, 5, 6, 7, 8, 9, 10, 11, 12, 13, 14, 15, 16, 17, 18, 19, 20, 21, 22, 1, 0] (lv' := [(0, .ref b), (1, .ref (ad 7 (0))), (2, .ref (ad 41 (0))), (3, .ref (ad 42 (0))), (4, .ref (ad 43 (0))), (5, .int (J (z 10 0 0))), (6, .long (Lg (bg))), (8, .int (J (t))), (9, .int (J (xx))), (10, .int (J (z 16 0 0))), (11, .int (J (z 15 0 0))), (12, .int (J (trU z))), (13, .int (J (tcU z))), (14, .int (J (twU z))), (15, .int (J (cmB z))), (16, .int (J (clB z))), (17, .int (J (fo))), (28, .int (J (ft))), (29, .int (J (so))), (30, .int (J (ak1))), (31, .int (J (pa))), (32, .int (J (mo))), (33, .int (J (i + 1)))]) rfl ?_
                                          exact ih1479 (u15) (mo) (i + 1) (by omega) (A15) (by (repeat' split) <;> (first | omega | (rw [hw]; split <;> omega))) (by omega)
                                      · skip
                                        have g3 := ak3 i hi.1 (by omega)
                                        rw [← em] at g3
                                        exfalso; omega
                                · skip
                                  refine g_iload F dL_law_1498 17 rfl ?_
                                  refine g_aload_n F dL_law_1500 rfl 1 rfl ?_
                                  refine g_iload F dL_law_1501 22 rfl ?_
                                  refine g_iload F dL_law_1503 24 rfl ?_
                                  refine g_callV 2 F (As := [.int (J (i)), .int (J (v))]) (st := [.int (J (ft))]) (c_X7_heats l D ad u15 y (i) (v) (by omega) (by omega) (KP_I A15)) (gR_7) rfl mk_L_113 ki_X7_heats kc_X7_heats (by decide +kernel) rfl (by decide) dL_law_1505 rfl (Nat.le_of_ble_eq_true rfl) (pI_k ?_)
                                  refine g_topi (b := htU z (i) (v)) ((he_k A15 (by omega) (by omega) (by omega)).1) ?_
                                  refine g_nm (P := fun u_1505 => KP z u12 u_1505) ((he_k A15 (by omega) (by omega) (by omega)).2) (fun u_1505 A_u_1505 => ?_)
                                  refine g_iand F dL_law_1508 (bitsZ (fun h => ft / p2 h % 2 = 1 ∧ vU z i h = v) 31) (an_ht fr) ?_
                                  have bb := bits_31 (P := fun h => ft / p2 h % 2 = 1 ∧ vU z i h = v)
                                  refine g_callS 1 F (As := [.int (J (bitsZ (fun h => ft / p2 h % 2 = 1 ∧ vU z i h = v) 31))]) (st := []) (c_L_bits l D ad u_1505 y (bitsZ (fun h => ft / p2 h % 2 = 1 ∧ vU z i h = v) 31) (by omega)) rfl mk_L_132 ki_L_bits kc_L_bits (by decide +kernel) rfl (by decide) dL_law_1509 rfl (Nat.le_of_ble_eq_true rfl) (pI_k ?_)
                                  refine g_topi (b := ctZ z ft i v) (bits_pc) ?_
                                  refine g_nmi (P := fun cv => (0 ≤ cv ∧ cv ≤ 31) ∧ cv = ctZ z ft i v) (⟨ct_r z ft i v, rfl⟩) (fun cv h_cv => ?_)
                                  refine g_istore F [(36, .int (J (cv))), (0, .ref b), (1, .ref (ad 7 (0))), (2, .ref (ad 41 (0))), (3, .ref (ad 42 (0))), (4, .ref (ad 43 (0))), (5, .int (J (z 10 0 0))), (6, .long (Lg (bg))), (8, .int (J (t))), (9, .int (J (xx))), (10, .int (J (z 16 0 0))), (11, .int (J (z 15 0 0))), (12, .int (J (trU z))), (13, .int (J (tcU z))), (14, .int (J (twU z))), (15, .int (J (cmB z))), (16, .int (J (clB z))), (17, .int (J (fo))), (28, .int (J (ft))), (29, .int (J (so))), (30, .int (J (ak1))), (31, .int (J (pa))), (32, .int (J (wd))), (33, .int (J (i))), (34, .int (J (mo))), (35, .int (J (v)))] dL_law_1512 (by decide) rfl ?_
                                  refine g_iload F dL_law_1514 0 rfl ?_
                                  refine g_iload F dL_law_1516 24 rfl ?_
                                  refine g_icmp_le 1526 F dL_law_1518 (by omega) (by omega) rfl (fun c_17 => ?_) (fun c_17 => ?_)
                                  · skip
                                    refine g_iload F dL_law_1526 24 rfl ?_
                                    refine g_istore F [(34, .int (J (mo))), (36, .int (J (cv))), (0, .ref b), (1, .ref (ad 7 (0))), (2, .ref (ad 41 (0))), (3, .ref (ad 42 (0))), (4, .ref (ad 43 (0))), (5, .int (J (z 10 0 0))), (6, .long (Lg (bg))), (8, .int (J (t))), (9, .int (J (xx))), (10, .int (J (z 16 0 0))), (11, .int (J (z 15 0 0))), (12, .int (J (trU z))), (13, .int (J (tcU z))), (14, .int (J (twU z))), (15, .int (J (cmB z))), (16, .int (J (clB z))), (17, .int (J (fo))), (28, .int (J (ft))), (29, .int (J (so))), (30, .int (J (ak1))), (31, .int (J (pa))), (32, .int (J (wd))), (33, .int (J (i))), (35, .int (J (v)))] dL_law_1528 (by decide) rfl ?_
                                    refine g_iinc F [(35, .int (J (v + 1))), (34, .int (J (mo))), (36, .int (J (cv))), (0, .ref b), (1, .ref (ad 7 (0))), (2, .ref (ad 41 (0))), (3, .ref (ad 42 (0))), (4, .ref (ad 43 (0))), (5, .int (J (z 10 0 0))), (6, .long (Lg (bg))), (8, .int (J (t))), (9, .int (J (xx))), (10, .int (J (z 16 0 0))), (11, .int (J (z 15 0 0))), (12, .int (J (trU z))), (13, .int (J (tcU z))), (14, .int (J (twU z))), (15, .int (J (cmB z))), (16, .int (J (clB z))), (17, .int (J (fo))), (28, .int (J (ft))), (29, .int (J (so))), (30, .int (J (ak1))), (31, .int (J (pa))), (32, .int (J (wd))), (33, .int (J (i)))] 25 rfl dL_law_1530 (by decide) rfl ?_
                                    refine g_goto F 1492 dL_law_1533 rfl ?_
                                    refine g_sub [3, 4, 5, 6, 7, 8, 9, 10, 11, 12, 13, 14, 15, 16, 17, 18, 19, 20, 21, 22, 23, 24, 25, 1, 0] (lv' := [(0, .ref b), (1, .ref (ad 7 (0))), (2, .ref (ad 41 (0))), (3, .ref (ad 42 (0))), (4, .ref (ad 43 (0))), (5, .int (J (z 10 0 0))), (6, .long (Lg (bg))), (8, .int (J (t))), (9, .int (J (xx))), (10, .int (J (z 16 0 0))), (11, .int (J (z 15 0 0))), (12, .int (J (trU z))), (13, .int (J (tcU z))), (14, .int (J (twU z))), (15, .int (J (cmB z))), (16, .int (J (clB z))), (17, .int (J (fo))), (28, .int (J (ft))), (29, .int (J (so))), (30, .int (J (ak1))), (31, .int (J (pa))), (32, .int (J (wd))), (33, .int (J (i))), (34, .int (J (mo))), (35, .int (J (v + 1)))]) rfl ?_
                                    exact ih1492 (u_1505) (mo) (v + 1) (by omega) (A_u_1505) (by rw [mxZ_s _ hv.1, ← hm, ← h_cv.2]; omega) (by omega) (by omega)
                                  · skip
                                    refine g_iload F dL_law_1521 0 rfl ?_
                                    refine g_goto F 1528 dL_law_1523 rfl ?_
                                    refine g_istore F [(34, .int (J (cv))), (36, .int (J (cv))), (0, .ref b), (1, .ref (ad 7 (0))), (2, .ref (ad 41 (0))), (3, .ref (ad 42 (0))), (4, .ref (ad 43 (0))), (5, .int (J (z 10 0 0))), (6, .long (Lg (bg))), (8, .int (J (t))), (9, .int (J (xx))), (10, .int (J (z 16 0 0))), (11, .int (J (z 15 0 0))), (12, .int (J (trU z))), (13, .int (J (tcU z))), (14, .int (J (twU z))), (15, .int (J (cmB z))), (16, .int (J (clB z))), (17, .int (J (fo))), (28, .int (J (ft))), (29, .int (J (so))), (30, .int (J (ak1))), (31, .int (J (pa))), (32, .int (J (wd))), (33, .int (J (i))), (35, .int (J (v)))] dL_law_1528 (by decide) rfl ?_
                                    refine g_iinc F [(35, .int (J (v + 1))), (34, .int (J (cv))), (36, .int (J (cv))), (0, .ref b), (1, .ref (ad 7 (0))), (2, .ref (ad 41 (0))), (3, .ref (ad 42 (0))), (4, .ref (ad 43 (0))), (5, .int (J (z 10 0 0))), (6, .long (Lg (bg))), (8, .int (J (t))), (9, .int (J (xx))), (10, .int (J (z 16 0 0))), (11, .int (J (z 15 0 0))), (12, .int (J (trU z))), (13, .int (J (tcU z))), (14, .int (J (twU z))), (15, .int (J (cmB z))), (16, .int (J (clB z))), (17, .int (J (fo))), (28, .int (J (ft))), (29, .int (J (so))), (30, .int (J (ak1))), (31, .int (J (pa))), (32, .int (J (wd))), (33, .int (J (i)))] 25 rfl dL_law_1530 (by decide) rfl ?_
                                    refine g_goto F 1492 dL_law_1533 rfl ?_
                                    refine g_sub [3, 4, 5, 6, 7, 8, 9, 10, 11, 12, 13, 14, 15, 16, 17, 18, 19, 20, 21, 22, 23, 24, 25, 1, 0] (lv' := [(0, .ref b), (1, .ref (ad 7 (0))), (2, .ref (ad 41 (0))), (3, .ref (ad 42 (0))), (4, .ref (ad 43 (0))), (5, .int (J (z 10 0 0))), (6, .long (Lg (bg))), (8, .int (J (t))), (9, .int (J (xx))), (10, .int (J (z 16 0 0))), (11, .int (J (z 15 0 0))), (12, .int (J (trU z))), (13, .int (J (tcU z))), (14, .int (J (twU z))), (15, .int (J (cmB z))), (16, .int (J (clB z))), (17, .int (J (fo))), (28, .int (J (ft))), (29, .int (J (so))), (30, .int (J (ak1))), (31, .int (J (pa))), (32, .int (J (wd))), (33, .int (J (i))), (34, .int (J (cv))), (35, .int (J (v + 1)))]) rfl ?_
                                    exact ih1492 (u_1505) (cv) (v + 1) (by omega) (A_u_1505) (by rw [mxZ_s _ hv.1, ← hm, ← h_cv.2]; omega) (by omega) (by omega)
                            refine g_sub [2, 3, 4, 5, 6, 7, 8, 9, 10, 11, 12, 13, 14, 15, 16, 17, 18, 19, 20, 21, 22, 23, 24, 1, 0] (lv' := [(0, .ref b), (1, .ref (ad 7 (0))), (2, .ref (ad 41 (0))), (3, .ref (ad 42 (0))), (4, .ref (ad 43 (0))), (5, .int (J (z 10 0 0))), (6, .long (Lg (bg))), (8, .int (J (t))), (9, .int (J (xx))), (10, .int (J (z 16 0 0))), (11, .int (J (z 15 0 0))), (12, .int (J (trU z))), (13, .int (J (tcU z))), (14, .int (J (twU z))), (15, .int (J (cmB z))), (16, .int (J (clB z))), (17, .int (J (fo))), (28, .int (J (ft))), (29, .int (J (so))), (30, .int (J (ak1))), (31, .int (J (pa))), (32, .int (J (wd))), (33, .int (J (i))), (34, .int (J (0))), (35, .int (J (0)))]) rfl ?_
                            exact L1492 _ (u14) (0) (0) (by omega) (A14) (rfl) (by omega) (Nat.lt_succ_self _)
                      refine g_sub [6, 7, 8, 9, 10, 11, 12, 13, 14, 15, 16, 17, 18, 19, 20, 21, 22, 5, 4, 3, 2, 1, 0] (lv' := [(0, .ref b), (1, .ref (ad 7 (0))), (2, .ref (ad 41 (0))), (3, .ref (ad 42 (0))), (4, .ref (ad 43 (0))), (5, .int (J (z 10 0 0))), (6, .long (Lg (bg))), (8, .int (J (t))), (9, .int (J (xx))), (10, .int (J (z 16 0 0))), (11, .int (J (z 15 0 0))), (12, .int (J (trU z))), (13, .int (J (tcU z))), (14, .int (J (twU z))), (15, .int (J (cmB z))), (16, .int (J (clB z))), (17, .int (J (fo))), (28, .int (J (ft))), (29, .int (J (so))), (30, .int (J (ak1))), (31, .int (J (pa))), (32, .int (J (0))), (33, .int (J (0)))]) rfl ?_
                      exact L1479 _ (u_1414) (0) (0) (by omega) (A_u_1414) (by rw [if_neg (by omega)]) (Nat.lt_succ_self _)
                    · skip
                      exfalso; omega
        · skip
          refine g_iload F dL_law_1325 8 rfl ?_
          refine g_iconst F dL_law_1327 (3) (by decide) ?_
          refine g_iload F dL_law_1328 17 rfl ?_
          refine g_imul F dL_law_1330 ?_
          refine g_ishr F dL_law_1331 (shZ xx ((3) * (k))) (J_sh xx ((3) * (k))) ?_
          refine g_iload F dL_law_1332 5 rfl ?_
          refine g_callS 2 F (As := [.int (J (shZ xx ((3) * (k)))), .int (J (z 10 0 0))]) (st := []) (c_L_low l D ad u12 y (shZ xx ((3) * (k))) (z 10 0 0) (by omega)) rfl mk_L_15 ki_L_low kc_L_low (by decide +kernel) rfl (by decide) dL_law_1334 rfl (Nat.le_of_ble_eq_true rfl) (pI_k ?_)
          refine g_nmi (P := fun i => 0 ≤ i ∧ i < z 10 0 0) (lwZ_r (by omega)) (fun i h_i => ?_)
          have rv := vU_r z i (z 15 0 0)
          refine g_istore F [(29, .int (J (i))), (0, .ref b), (1, .ref (ad 7 (0))), (2, .ref (ad 41 (0))), (3, .ref (ad 42 (0))), (4, .ref (ad 43 (0))), (5, .int (J (z 10 0 0))), (6, .long (Lg (bg))), (8, .int (J (t))), (9, .int (J (xx))), (10, .int (J (z 16 0 0))), (11, .int (J (z 15 0 0))), (12, .int (J (trU z))), (13, .int (J (tcU z))), (14, .int (J (twU z))), (15, .int (J (cmB z))), (16, .int (J (clB z))), (17, .int (J (fo))), (28, .int (J (k)))] dL_law_1337 (by decide) rfl ?_
          refine g_aload_n F dL_law_1339 rfl 2 rfl ?_
          refine g_iconst F dL_law_1340 (3) (by decide) ?_
          refine g_iconst F dL_law_1341 (2) (by decide) ?_
          refine g_iload F dL_law_1342 18 rfl ?_
          refine g_imul F dL_law_1344 ?_
          refine g_iload F dL_law_1345 0 rfl ?_
          refine g_callV 3 F (As := [.int (J (3)), .int (J ((2) * (k))), .int (J (i))]) (st := []) (c_X7_lay l D ad u12 y (3) ((2) * (k)) (i) (by omega) (by omega) (by omega) (KP_I A12)) (gR_7) rfl mk_L_144 ki_X7_lay kc_X7_lay (by decide +kernel) rfl (by decide) dL_law_1347 rfl (Nat.le_of_ble_eq_true rfl) (pI_k ?_)
          refine g_topi (b := 1) ((lay_k A12 (R := 3) (i := 2 * k) (v := i) (by decide) ⟨by omega, by rw [w12]; omega⟩ ⟨by omega, by omega⟩).1) ?_
          refine g_nm (P := fun u_1347 => KP z u_1347 u_1347 ∧ u_1347 17 = u12 17 ∧ ∀ j : Int, u_1347 20 3 j = if j = 2 * k then i else u12 20 3 j) ((lay_k A12 (R := 3) (i := 2 * k) (v := i) (by decide) ⟨by omega, by rw [w12]; omega⟩ ⟨by omega, by omega⟩).2) (fun u_1347 ⟨A_u_1347, e17, e20⟩ => ?_)
          refine g_iconst F dL_law_1350 (1) (by decide) ?_
          refine g_icmp_ne 1391 F dL_law_1351 (by decide) (by decide) rfl (fun c_18 => ?_) (fun c_18 => ?_)
          · skip
            exact absurd c_18 (by decide)
          · skip
            have L1384 : ∀ (u13 : gX), KP z u_1347 u13 → gW Θ l D ad 37 1384 [(29, .int (J (i))), (0, .ref b), (1, .ref (ad 7 (0))), (2, .ref (ad 41 (0))), (3, .ref (ad 42 (0))), (4, .ref (ad 43 (0))), (5, .int (J (z 10 0 0))), (6, .long (Lg (bg))), (8, .int (J (t))), (9, .int (J (xx))), (10, .int (J (z 16 0 0))), (11, .int (J (z 15 0 0))), (12, .int (J (trU z))), (13, .int (J (tcU z))), (14, .int (J (twU z))), (15, .int (J (cmB z))), (16, .int (J (clB z))), (17, .int (J (fo))), (28, .int (J (k)))] [.int (J (vU z i (z 15 0 0))), .int (J (((2) * (k)) + (1))), .int (J (3)), .ref (ad 7 (0))] u13 y := by
              intro u13 A13
              refine g_callV 3 F (As := [.int (J (3)), .int (J (((2) * (k)) + (1))), .int (J (vU z i (z 15 0 0)))]) (st := []) (c_X7_lay l D ad u13 y (3) (((2) * (k)) + (1)) (vU z i (z 15 0 0)) (by omega) (by omega) (by omega) (KP_I A13)) (gR_7) rfl mk_L_144 ki_X7_lay kc_X7_lay (by decide +kernel) rfl (by decide) dL_law_1384 rfl (Nat.le_of_ble_eq_true rfl) (pI_k ?_)
              refine g_topi (b := 1) ((lay_k A13 (R := 3) (i := 2 * k + 1) (v := vU z i (z 15 0 0)) (by decide) ⟨by omega, by rw [A13.2.1, e17, w12]; omega⟩ ⟨by omega, by omega⟩).1) ?_
              refine g_nm (P := fun u_1384 => KP z u_1384 u_1384 ∧ u_1384 17 = u13 17 ∧ ∀ j : Int, u_1384 20 3 j = if j = 2 * k + 1 then vU z i (z 15 0 0) else u13 20 3 j) ((lay_k A13 (R := 3) (i := 2 * k + 1) (v := vU z i (z 15 0 0)) (by decide) ⟨by omega, by rw [A13.2.1, e17, w12]; omega⟩ ⟨by omega, by omega⟩).2) (fun u_1384 ⟨nA, f17, f20⟩ => ?_)
              have nW : u_1384 17 3 0 = 4 := by rw [f17, A13.2.1, e17]; exact w12
              have nP : PR z u_1384 (k + 1) := PR_s hp hk.1 h_i (v := u13) (fun j => by rw [A13.2.2]; exact e20 j) f20
              refine g_iconst F dL_law_1387 (1) (by decide) ?_
              refine g_icmp_eq 1393 F dL_law_1388 (by decide) (by decide) rfl (fun c_19 => ?_) (fun c_19 => ?_)
              · skip
                refine g_iinc F [(28, .int (J (k + 1))), (29, .int (J (i))), (0, .ref b), (1, .ref (ad 7 (0))), (2, .ref (ad 41 (0))), (3, .ref (ad 42 (0))), (4, .ref (ad 43 (0))), (5, .int (J (z 10 0 0))), (6, .long (Lg (bg))), (8, .int (J (t))), (9, .int (J (xx))), (10, .int (J (z 16 0 0))), (11, .int (J (z 15 0 0))), (12, .int (J (trU z))), (13, .int (J (tcU z))), (14, .int (J (twU z))), (15, .int (J (cmB z))), (16, .int (J (clB z))), (17, .int (J (fo)))] 18 rfl dL_law_1393 (by decide) rfl ?_
                refine g_goto F 1319 dL_law_1396 rfl ?_
                refine g_sub [2, 3, 4, 5, 6, 7, 8, 9, 10, 11, 12, 13, 14, 15, 16, 17, 18, 0] (lv' := [(0, .ref b), (1, .ref (ad 7 (0))), (2, .ref (ad 41 (0))), (3, .ref (ad 42 (0))), (4, .ref (ad 43 (0))), (5, .int (J (z 10 0 0))), (6, .long (Lg (bg))), (8, .int (J (t))), (9, .int (J (xx))), (10, .int (J (z 16 0 0))), (11, .int (J (z 15 0 0))), (12, .int (J (trU z))), (13, .int (J (tcU z))), (14, .int (J (twU z))), (15, .int (J (cmB z))), (16, .int (J (clB z))), (17, .int (J (fo))), (28, .int (J (k + 1)))]) rfl ?_
                exact ih1319 (u_1384) (k + 1) (by omega) (nA) (nW) (nP) (by omega)
              · skip
                exact absurd c_19 (by decide)
            refine g_aload_n F dL_law_1354 rfl 2 rfl ?_
            refine g_iconst F dL_law_1355 (3) (by decide) ?_
            refine g_iconst F dL_law_1356 (2) (by decide) ?_
            refine g_iload F dL_law_1357 18 rfl ?_
            refine g_imul F dL_law_1359 ?_
            refine g_iconst F dL_law_1360 (1) (by decide) ?_
            refine g_iadd F dL_law_1361 ?_
            refine g_aload_n F dL_law_1362 rfl 2 rfl ?_
            refine g_iload F dL_law_1363 0 rfl ?_
            refine g_iconst F dL_law_1365 (5) (by decide) ?_
            refine g_callS 3 F (As := [.ref (ad 7 (0)), .int (J (i)), .int (J (5))]) (st := [.int (J (((2) * (k)) + (1))), .int (J (3)), .ref (ad 7 (0))]) (c_L_tell l D ad u_1347 y (i) (5) (KP_I A_u_1347) (⟨by omega, by rw [KP_10 A_u_1347]; omega⟩) (by omega)) rfl mk_L_106 ki_L_tell kc_L_tell (by decide +kernel) rfl (by decide) dL_law_1366 rfl (Nat.le_of_ble_eq_true rfl) (pI_k ?_)
            refine g_topi (b := if cU z (i) (z 15 0 0) then 1 else 0) (td5 A_u_1347 (by omega) (by omega)) ?_
            refine g_nm (P := fun u_1366 => KP z u_1347 u_1366) (KP_tell A_u_1347 _) (fun u_1366 A_u_1366 => ?_)
            refine g_ifb_ne 1376 F dL_law_1369 rfl (fun c_20 => ?_) (fun c_20 => ?_)
            · skip
              have hcc := c_20
              refine g_aload_n F dL_law_1376 rfl 2 rfl ?_
              refine g_iload F dL_law_1377 0 rfl ?_
              refine g_bipush F dL_law_1379 (6) (by decide) ?_
              refine g_callS 3 F (As := [.ref (ad 7 (0)), .int (J (i)), .int (J (6))]) (st := [.int (J (((2) * (k)) + (1))), .int (J (3)), .ref (ad 7 (0))]) (c_L_tell l D ad u_1366 y (i) (6) (KP_I A_u_1366) (⟨by omega, by rw [KP_10 A_u_1366]; omega⟩) (by omega)) rfl mk_L_106 ki_L_tell kc_L_tell (by decide +kernel) rfl (by decide) dL_law_1381 rfl (Nat.le_of_ble_eq_true rfl) (pI_k ?_)
              refine g_topi (b := vU z i (z 15 0 0)) (td6v A_u_1366 (by omega) (by omega) hcc) ?_
              refine g_nm (P := fun u_1381 => KP z u_1347 u_1381) (KP_tell A_u_1366 _) (fun u_1381 A_u_1381 => ?_)
              exact L1384 (u_1381) (A_u_1381)
            · skip
              have hcc := c_20
              refine g_iconst F dL_law_1372 (2) (by decide) ?_
              refine g_topi (b := vU z i (z 15 0 0)) (vU_c hcc) ?_
              refine g_goto F 1384 dL_law_1373 rfl ?_
              exact L1384 (u_1366) (A_u_1366)
    refine g_sub [1, 2, 3, 4, 5, 6, 7, 8, 9, 10, 11, 12, 13, 14, 15, 16, 17, 0] (lv' := [(0, .ref b), (1, .ref (ad 7 (0))), (2, .ref (ad 41 (0))), (3, .ref (ad 42 (0))), (4, .ref (ad 43 (0))), (5, .int (J (z 10 0 0))), (6, .long (Lg (bg))), (8, .int (J (t))), (9, .int (J (xx))), (10, .int (J (z 16 0 0))), (11, .int (J (z 15 0 0))), (12, .int (J (trU z))), (13, .int (J (tcU z))), (14, .int (J (twU z))), (15, .int (J (cmB z))), (16, .int (J (clB z))), (17, .int (J (fo))), (28, .int (J (0)))]) rfl ?_
    exact L1319 _ (u_1307) (0) (by omega) (A_u_1307) (w17) (fun q a b => by omega) (Nat.lt_succ_self _)
  · skip
    exact absurd c_1 (by decide)
