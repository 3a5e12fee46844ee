theorem TK_h {z v : gX} {i : Int} (h15 : 0 ≤ z 15 0 0 ∧ z 15 0 0 ≤ 30) (k : v 15 0 0 = sBeh (z 14 0 0) (vU z i (z 15 0 0)) (tcU z + (if vU z i (z 15 0 0) = 1 then 1 else 0)) (z 15 0 0)) : z 15 0 0 ≤ v 15 0 0 ∧ v 15 0 0 ≤ 30 := by
  rw [k]; unfold sBeh kH; split <;> omega
set_option maxHeartbeats 1000000 in
set_option maxRecDepth 20000 in
theorem law_B1 {Θ : gT} {l : Launch} {D : gD} {ad : gA} {b : Nat} {z r : gX} {bg t xx fo i : Int} {u : gX} {y : gY} (F : gF Θ l D ad cL_law RL 37 20) (hz : INV z) (hn : 1 ≤ z 10 0 0) (h16 : z 16 0 0 ≤ 9) (A : KP z r u) (hi : 0 ≤ i ∧ i < z 10 0 0) (hf : 0 ≤ fo ∧ fo ≤ 6) (ht : z 6 i 0 = -9) (kk : ∀ v : gX, KP z v v → gW Θ l D ad 37 658 [(0, .ref b), (1, .ref (ad 7 (0))), (2, .ref (ad 41 (0))), (3, .ref (ad 42 (0))), (4, .ref (ad 43 (0))), (5, .int (J (z 10 0 0))), (6, .long (Lg (bg))), (8, .int (J (t))), (9, .int (J (xx))), (10, .int (J (z 16 0 0))), (11, .int (J (z 15 0 0))), (12, .int (J (trU z))), (13, .int (J (tcU z))), (14, .int (J (twU z))), (15, .int (J (cmB z))), (16, .int (J (clB z))), (17, .int (J ((fo) + (if vU z i (z 15 0 0) = 0 then 1 else 0)))), (18, .int (J (i)))] [] v y) : gW Θ l D ad 37 209 [(0, .ref b), (1, .ref (ad 7 (0))), (2, .ref (ad 41 (0))), (3, .ref (ad 42 (0))), (4, .ref (ad 43 (0))), (5, .int (J (z 10 0 0))), (6, .long (Lg (bg))), (8, .int (J (t))), (9, .int (J (xx))), (10, .int (J (z 16 0 0))), (11, .int (J (z 15 0 0))), (12, .int (J (trU z))), (13, .int (J (tcU z))), (14, .int (J (twU z))), (15, .int (J (cmB z))), (16, .int (J (clB z))), (17, .int (J (fo))), (18, .int (J (i)))] [] u y := by
  have h10 := hz.1.2.1
  have h15 := hz.1.2.2.1
  have h160 := hz.2.2.1.1.1
  have htr := trU_r hz.1
  have hcm := cmB_r hz.1
  have hcl := clB_r hz.1
  have htc := tc_r hz.1
  have htw := tw_r hz.1
  have hm := hz.1.2.2.2 i hi.1 hi.2
  have hv := vU_r z i (z 15 0 0)
  have hb := bU_r hz.1.1 hm (h := z 15 0 0) (by omega)
  have r0 := ht_r z i 0
  have r1 := ht_r z i 1
  have r2 := ht_r z i 2
  have h6p := INV_VT hz hi.1 hi.2
  refine g_iload F dL_law_209 11 rfl ?_
  refine g_iload F dL_law_211 17 rfl ?_
  refine g_ishr F dL_law_213 (trU z / p2 i) (J_shr ⟨htr.1, by omega⟩ ⟨by omega, by omega⟩) ?_
  refine g_iconst F dL_law_214 (1) (by decide) ?_
  refine g_iand F dL_law_215 (trU z / p2 i % 2) (J_bt ⟨htr.1, by omega⟩ ⟨by omega, by omega⟩) ?_
  refine g_topi (b := 0) (by rw [bit_of (P := fun q => z 6 q 0 ≠ -9) hi.1 hi.2, if_neg (fun c => c ht)]) ?_
  refine g_iconst F dL_law_216 (1) (by decide) ?_
  refine g_icmp_ne 224 F dL_law_217 (by decide) (by decide) rfl (fun c_1 => ?_) (fun c_1 => ?_)
  · skip
    refine g_iconst F dL_law_224 (0) (by decide) ?_
    refine g_istore F [(19, .int (J (0))), (0, .ref b), (1, .ref (ad 7 (0))), (2, .ref (ad 41 (0))), (3, .ref (ad 42 (0))), (4, .ref (ad 43 (0))), (5, .int (J (z 10 0 0))), (6, .long (Lg (bg))), (8, .int (J (t))), (9, .int (J (xx))), (10, .int (J (z 16 0 0))), (11, .int (J (z 15 0 0))), (12, .int (J (trU z))), (13, .int (J (tcU z))), (14, .int (J (twU z))), (15, .int (J (cmB z))), (16, .int (J (clB z))), (17, .int (J (fo))), (18, .int (J (i)))] dL_law_225 (by decide) rfl ?_
    refine g_aload_n F dL_law_227 rfl 2 rfl ?_
    refine g_iload F dL_law_228 18 rfl ?_
    refine g_iconst F dL_law_230 (4) (by decide) ?_
    refine g_callS 3 F (As := [.ref (ad 7 (0)), .int (J (i)), .int (J (4))]) (st := []) (c_L_tell l D ad u y (i) (4) (KP_I A) (⟨by omega, by rw [KP_10 A]; omega⟩) (by omega)) rfl mk_L_106 ki_L_tell kc_L_tell (by decide +kernel) rfl (by decide) dL_law_231 rfl (Nat.le_of_ble_eq_true rfl) (pI_k ?_)
    refine g_topi (b := bU z (i) (z 15 0 0)) (td4 A (by omega) (by omega)) ?_
    refine g_nm (P := fun u_231 => KP z r u_231) (KP_tell A _) (fun u_231 A_u_231 => ?_)
    refine g_istore F [(20, .int (J (bU z (i) (z 15 0 0)))), (19, .int (J (0))), (0, .ref b), (1, .ref (ad 7 (0))), (2, .ref (ad 41 (0))), (3, .ref (ad 42 (0))), (4, .ref (ad 43 (0))), (5, .int (J (z 10 0 0))), (6, .long (Lg (bg))), (8, .int (J (t))), (9, .int (J (xx))), (10, .int (J (z 16 0 0))), (11, .int (J (z 15 0 0))), (12, .int (J (trU z))), (13, .int (J (tcU z))), (14, .int (J (twU z))), (15, .int (J (cmB z))), (16, .int (J (clB z))), (17, .int (J (fo))), (18, .int (J (i)))] dL_law_234 (by decide) rfl ?_
    have L258 : ∀ (u1 : gX), KP z r u1 → gW Θ l D ad 37 258 [(20, .int (J (bU z (i) (z 15 0 0)))), (19, .int (J (0))), (0, .ref b), (1, .ref (ad 7 (0))), (2, .ref (ad 41 (0))), (3, .ref (ad 42 (0))), (4, .ref (ad 43 (0))), (5, .int (J (z 10 0 0))), (6, .long (Lg (bg))), (8, .int (J (t))), (9, .int (J (xx))), (10, .int (J (z 16 0 0))), (11, .int (J (z 15 0 0))), (12, .int (J (trU z))), (13, .int (J (tcU z))), (14, .int (J (twU z))), (15, .int (J (cmB z))), (16, .int (J (clB z))), (17, .int (J (fo))), (18, .int (J (i)))] [.int (J (vU z i (z 15 0 0)))] u1 y := by
      intro u1 A1
      refine g_istore F [(21, .int (J (vU z i (z 15 0 0)))), (20, .int (J (bU z (i) (z 15 0 0)))), (19, .int (J (0))), (0, .ref b), (1, .ref (ad 7 (0))), (2, .ref (ad 41 (0))), (3, .ref (ad 42 (0))), (4, .ref (ad 43 (0))), (5, .int (J (z 10 0 0))), (6, .long (Lg (bg))), (8, .int (J (t))), (9, .int (J (xx))), (10, .int (J (z 16 0 0))), (11, .int (J (z 15 0 0))), (12, .int (J (trU z))), (13, .int (J (tcU z))), (14, .int (J (twU z))), (15, .int (J (cmB z))), (16, .int (J (clB z))), (17, .int (J (fo))), (18, .int (J (i)))] dL_law_258 (by decide) rfl ?_
      refine g_aload_n F dL_law_260 rfl 4 rfl ?_
      refine g_iload F dL_law_261 20 rfl ?_
      refine g_iconst F dL_law_263 (1) (by decide) ?_
      refine g_callS 3 F (As := [.ref (ad 7 (0)), .int (J (i)), .int (J (1))]) (st := []) (c_L_tell l D ad u1 y (i) (1) (KP_I A1) (⟨by omega, by rw [KP_10 A1]; omega⟩) (by omega)) rfl mk_L_106 ki_L_tell kc_L_tell (by decide +kernel) rfl (by decide) dL_law_264 rfl (Nat.le_of_ble_eq_true rfl) (pI_k ?_)
      refine g_topi (b := z 2 (i) 0) (td1 A1 (by omega) (by omega)) ?_
      refine g_nm (P := fun u_264 => KP z r u_264) (KP_tell A1 _) (fun u_264 A_u_264 => ?_)
      refine g_istore F [(22, .int (J (z 2 (i) 0))), (21, .int (J (vU z i (z 15 0 0)))), (20, .int (J (bU z (i) (z 15 0 0)))), (19, .int (J (0))), (0, .ref b), (1, .ref (ad 7 (0))), (2, .ref (ad 41 (0))), (3, .ref (ad 42 (0))), (4, .ref (ad 43 (0))), (5, .int (J (z 10 0 0))), (6, .long (Lg (bg))), (8, .int (J (t))), (9, .int (J (xx))), (10, .int (J (z 16 0 0))), (11, .int (J (z 15 0 0))), (12, .int (J (trU z))), (13, .int (J (tcU z))), (14, .int (J (twU z))), (15, .int (J (cmB z))), (16, .int (J (clB z))), (17, .int (J (fo))), (18, .int (J (i)))] dL_law_267 (by decide) rfl ?_
      refine g_aload_n F dL_law_269 rfl 5 rfl ?_
      refine g_iload F dL_law_270 21 rfl ?_
      refine g_callV 1 F (As := [.int (J (i))]) (st := []) (c_X7_trial l D ad u_264 y (i) (by omega) (KP_I A_u_264)) (gR_7) rfl mk_L_71 ki_X7_trial kc_X7_trial (by decide +kernel) rfl (by decide) dL_law_272 rfl (Nat.le_of_ble_eq_true rfl) (pI_k ?_)
      refine g_topi (b := vU z i (z 15 0 0)) ((tri_kp A_u_264 (by omega) hi.1 hi.2 ht).1) ?_
      refine g_nm (P := fun u_272 => TK z r i u_272) ((tri_kp A_u_264 (by omega) hi.1 hi.2 ht).2) (fun u_272 ⟨k1, k17, k20, k16, k6, kw, kc, k15, k19⟩ => ?_)
      have B_u_272 := KP_rf k1.1
      have k10 := EXT_10 k1
      have kh := TK_h (i := i) (v := u_272) h15 k15
      have kwr := tw_r k1.1.1
      have kcr := tc_r k1.1.1
      refine g_istore F [(23, .int (J (vU z i (z 15 0 0)))), (22, .int (J (z 2 (i) 0))), (21, .int (J (vU z i (z 15 0 0)))), (20, .int (J (bU z (i) (z 15 0 0)))), (19, .int (J (0))), (0, .ref b), (1, .ref (ad 7 (0))), (2, .ref (ad 41 (0))), (3, .ref (ad 42 (0))), (4, .ref (ad 43 (0))), (5, .int (J (z 10 0 0))), (6, .long (Lg (bg))), (8, .int (J (t))), (9, .int (J (xx))), (10, .int (J (z 16 0 0))), (11, .int (J (z 15 0 0))), (12, .int (J (trU z))), (13, .int (J (tcU z))), (14, .int (J (twU z))), (15, .int (J (cmB z))), (16, .int (J (clB z))), (17, .int (J (fo))), (18, .int (J (i)))] dL_law_275 (by decide) rfl ?_
      refine g_aload_n F dL_law_277 rfl 6 rfl ?_
      refine g_callV 0 F (As := []) (st := []) (c_X7_asked l D ad u_272 y  ) (gR_7) rfl mk_L_73 ki_X7_asked kc_X7_asked (by decide +kernel) rfl (by decide) dL_law_278 rfl (Nat.le_of_ble_eq_true rfl) (pI_k ?_)
      refine g_topi (b := if sWr (z 2 i 0) (vU z i (z 15 0 0)) then 1 else 0) (k19) ?_
      refine g_nmi (P := fun wr => (0 ≤ wr ∧ wr ≤ 1) ∧ wr = (if sWr (z 2 i 0) (vU z i (z 15 0 0)) then 1 else 0)) (⟨by split <;> decide, rfl⟩) (fun wr h_wr => ?_)
      have hwr := h_wr.1
      have kw2 : twU u_272 = twU z + wr := by rw [kw, h_wr.2]
      have hw3 := h_wr.2
      refine g_istore F [(24, .int (J (wr))), (23, .int (J (vU z i (z 15 0 0)))), (22, .int (J (z 2 (i) 0))), (21, .int (J (vU z i (z 15 0 0)))), (20, .int (J (bU z (i) (z 15 0 0)))), (19, .int (J (0))), (0, .ref b), (1, .ref (ad 7 (0))), (2, .ref (ad 41 (0))), (3, .ref (ad 42 (0))), (4, .ref (ad 43 (0))), (5, .int (J (z 10 0 0))), (6, .long (Lg (bg))), (8, .int (J (t))), (9, .int (J (xx))), (10, .int (J (z 16 0 0))), (11, .int (J (z 15 0 0))), (12, .int (J (trU z))), (13, .int (J (tcU z))), (14, .int (J (twU z))), (15, .int (J (cmB z))), (16, .int (J (clB z))), (17, .int (J (fo))), (18, .int (J (i)))] dL_law_281 (by decide) rfl ?_
      have L300 :  gW Θ l D ad 37 300 [(24, .int (J (wr))), (23, .int (J (vU z i (z 15 0 0)))), (22, .int (J (z 2 (i) 0))), (21, .int (J (vU z i (z 15 0 0)))), (20, .int (J (bU z (i) (z 15 0 0)))), (19, .int (J (0))), (0, .ref b), (1, .ref (ad 7 (0))), (2, .ref (ad 41 (0))), (3, .ref (ad 42 (0))), (4, .ref (ad 43 (0))), (5, .int (J (z 10 0 0))), (6, .long (Lg (bg))), (8, .int (J (t))), (9, .int (J (xx))), (10, .int (J (z 16 0 0))), (11, .int (J (z 15 0 0))), (12, .int (J (trU z))), (13, .int (J (tcU z))), (14, .int (J (twU z))), (15, .int (J (cmB z))), (16, .int (J (clB z))), (17, .int (J (fo))), (18, .int (J (i)))] [.int (J (if vU z i (z 15 0 0) = 0 then 1 else 0)), .int (J (fo))] u_272 y := by
        refine g_iadd F dL_law_300 ?_
        have L472 : ∀ (u2 : gX) (wr2 : Int), KP z r u2 → gW Θ l D ad 37 472 [(0, .ref b), (1, .ref (ad 7 (0))), (2, .ref (ad 41 (0))), (3, .ref (ad 42 (0))), (4, .ref (ad 43 (0))), (5, .int (J (z 10 0 0))), (6, .long (Lg (bg))), (8, .int (J (t))), (9, .int (J (xx))), (10, .int (J (z 16 0 0))), (11, .int (J (z 15 0 0))), (12, .int (J (trU z))), (13, .int (J (tcU z))), (14, .int (J (twU z))), (15, .int (J (cmB z))), (16, .int (J (clB z))), (18, .int (J (i))), (17, .int (J ((fo) + (if vU z i (z 15 0 0) = 0 then 1 else 0)))), (19, .int (J (0))), (20, .int (J (bU z i (z 15 0 0)))), (21, .int (J (vU z i (z 15 0 0))))] [] u2 y := by
          intro u2 wr2 A2
          refine g_iload F dL_law_472 18 rfl ?_
          refine g_if_ne 521 F dL_law_474 (by decide) rfl (fun c_2 => ?_) (fun c_2 => ?_)
          · skip
            exact absurd c_2 (by decide)
          · skip
            have L521 :  gW Θ l D ad 37 521 [(0, .ref b), (1, .ref (ad 7 (0))), (2, .ref (ad 41 (0))), (3, .ref (ad 42 (0))), (4, .ref (ad 43 (0))), (5, .int (J (z 10 0 0))), (6, .long (Lg (bg))), (8, .int (J (t))), (9, .int (J (xx))), (10, .int (J (z 16 0 0))), (11, .int (J (z 15 0 0))), (12, .int (J (trU z))), (13, .int (J (tcU z))), (14, .int (J (twU z))), (15, .int (J (cmB z))), (16, .int (J (clB z))), (18, .int (J (i))), (17, .int (J ((fo) + (if vU z i (z 15 0 0) = 0 then 1 else 0)))), (19, .int (J (0))), (20, .int (J (bU z i (z 15 0 0)))), (21, .int (J (vU z i (z 15 0 0))))] [] u2 y := by
              refine g_aload_n F dL_law_521 rfl 1 rfl ?_
              refine g_iload F dL_law_522 16 rfl ?_
              refine g_iconst F dL_law_524 (0) (by decide) ?_
              refine g_callV 2 F (As := [.int (J (i)), .int (J (0))]) (st := []) (c_X7_heats l D ad u2 y (i) (0) (by omega) (by omega) (KP_I A2)) (gR_7) rfl mk_L_113 ki_X7_heats kc_X7_heats (by decide +kernel) rfl (by decide) dL_law_525 rfl (Nat.le_of_ble_eq_true rfl) (pI_k ?_)
              refine g_topi (b := htU z (i) (0)) ((he_k A2 (by omega) (by omega) (by omega)).1) ?_
              refine g_nm (P := fun u_525 => KP z r u_525) ((he_k A2 (by omega) (by omega) (by omega)).2) (fun u_525 A_u_525 => ?_)
              refine g_istore F [(25, .int (J (htU z (i) (0)))), (0, .ref b), (1, .ref (ad 7 (0))), (2, .ref (ad 41 (0))), (3, .ref (ad 42 (0))), (4, .ref (ad 43 (0))), (5, .int (J (z 10 0 0))), (6, .long (Lg (bg))), (8, .int (J (t))), (9, .int (J (xx))), (10, .int (J (z 16 0 0))), (11, .int (J (z 15 0 0))), (12, .int (J (trU z))), (13, .int (J (tcU z))), (14, .int (J (twU z))), (15, .int (J (cmB z))), (16, .int (J (clB z))), (18, .int (J (i))), (17, .int (J ((fo) + (if vU z i (z 15 0 0) = 0 then 1 else 0)))), (19, .int (J (0))), (20, .int (J (bU z i (z 15 0 0)))), (21, .int (J (vU z i (z 15 0 0))))] dL_law_528 (by decide) rfl ?_
              refine g_aload_n F dL_law_530 rfl 2 rfl ?_
              refine g_iload F dL_law_531 17 rfl ?_
              refine g_iconst F dL_law_533 (1) (by decide) ?_
              refine g_callV 2 F (As := [.int (J (i)), .int (J (1))]) (st := []) (c_X7_heats l D ad u_525 y (i) (1) (by omega) (by omega) (KP_I A_u_525)) (gR_7) rfl mk_L_113 ki_X7_heats kc_X7_heats (by decide +kernel) rfl (by decide) dL_law_534 rfl (Nat.le_of_ble_eq_true rfl) (pI_k ?_)
              refine g_topi (b := htU z (i) (1)) ((he_k A_u_525 (by omega) (by omega) (by omega)).1) ?_
              refine g_nm (P := fun u_534 => KP z r u_534) ((he_k A_u_525 (by omega) (by omega) (by omega)).2) (fun u_534 A_u_534 => ?_)
              refine g_istore F [(26, .int (J (htU z (i) (1)))), (25, .int (J (htU z (i) (0)))), (0, .ref b), (1, .ref (ad 7 (0))), (2, .ref (ad 41 (0))), (3, .ref (ad 42 (0))), (4, .ref (ad 43 (0))), (5, .int (J (z 10 0 0))), (6, .long (Lg (bg))), (8, .int (J (t))), (9, .int (J (xx))), (10, .int (J (z 16 0 0))), (11, .int (J (z 15 0 0))), (12, .int (J (trU z))), (13, .int (J (tcU z))), (14, .int (J (twU z))), (15, .int (J (cmB z))), (16, .int (J (clB z))), (18, .int (J (i))), (17, .int (J ((fo) + (if vU z i (z 15 0 0) = 0 then 1 else 0)))), (19, .int (J (0))), (20, .int (J (bU z i (z 15 0 0)))), (21, .int (J (vU z i (z 15 0 0))))] dL_law_537 (by decide) rfl ?_
              refine g_aload_n F dL_law_539 rfl 3 rfl ?_
              refine g_iload F dL_law_540 18 rfl ?_
              refine g_iconst F dL_law_542 (2) (by decide) ?_
              refine g_callV 2 F (As := [.int (J (i)), .int (J (2))]) (st := []) (c_X7_heats l D ad u_534 y (i) (2) (by omega) (by omega) (KP_I A_u_534)) (gR_7) rfl mk_L_113 ki_X7_heats kc_X7_heats (by decide +kernel) rfl (by decide) dL_law_543 rfl (Nat.le_of_ble_eq_true rfl) (pI_k ?_)
              refine g_topi (b := htU z (i) (2)) ((he_k A_u_534 (by omega) (by omega) (by omega)).1) ?_
              refine g_nm (P := fun u_543 => KP z r u_543) ((he_k A_u_534 (by omega) (by omega) (by omega)).2) (fun u_543 A_u_543 => ?_)
              refine g_istore F [(27, .int (J (htU z (i) (2)))), (26, .int (J (htU z (i) (1)))), (25, .int (J (htU z (i) (0)))), (0, .ref b), (1, .ref (ad 7 (0))), (2, .ref (ad 41 (0))), (3, .ref (ad 42 (0))), (4, .ref (ad 43 (0))), (5, .int (J (z 10 0 0))), (6, .long (Lg (bg))), (8, .int (J (t))), (9, .int (J (xx))), (10, .int (J (z 16 0 0))), (11, .int (J (z 15 0 0))), (12, .int (J (trU z))), (13, .int (J (tcU z))), (14, .int (J (twU z))), (15, .int (J (cmB z))), (16, .int (J (clB z))), (18, .int (J (i))), (17, .int (J ((fo) + (if vU z i (z 15 0 0) = 0 then 1 else 0)))), (19, .int (J (0))), (20, .int (J (bU z i (z 15 0 0)))), (21, .int (J (vU z i (z 15 0 0))))] dL_law_546 (by decide) rfl ?_
              refine g_iload F dL_law_548 2 rfl ?_
              refine g_iload F dL_law_550 1 rfl ?_
              refine g_iand F dL_law_552 (0) (ht_2 (by decide)) ?_
              refine g_if_ne 617 F dL_law_553 (by decide) rfl (fun c_3 => ?_) (fun c_3 => ?_)
              · skip
                exact absurd c_3 (by decide)
              · skip
                refine g_iload F dL_law_556 2 rfl ?_
                refine g_iload F dL_law_558 0 rfl ?_
                refine g_iand F dL_law_560 (0) (ht_2 (by decide)) ?_
                refine g_if_ne 617 F dL_law_561 (by decide) rfl (fun c_4 => ?_) (fun c_4 => ?_)
                · skip
                  exact absurd c_4 (by decide)
                · skip
                  refine g_iload F dL_law_564 1 rfl ?_
                  refine g_iload F dL_law_566 0 rfl ?_
                  refine g_iand F dL_law_568 (0) (ht_2 (by decide)) ?_
                  refine g_if_ne 617 F dL_law_569 (by decide) rfl (fun c_5 => ?_) (fun c_5 => ?_)
                  · skip
                    exact absurd c_5 (by decide)
                  · skip
                    refine g_iload F dL_law_572 2 rfl ?_
                    refine g_iload F dL_law_574 1 rfl ?_
                    refine g_ior F dL_law_576 (bitsZ (fun h => vU z i h = 0 ∨ vU z i h = 1) 31) (ht_or) ?_
                    refine g_iload F dL_law_577 0 rfl ?_
                    refine g_ior F dL_law_579 (2147483647) (ht_all) ?_
                    refine g_ldc F ck_L_8 dL_law_580 (2147483647) (by decide) ?_
                    refine g_icmp_ne 617 F dL_law_582 (by decide) (by decide) rfl (fun c_6 => ?_) (fun c_6 => ?_)
                    · skip
                      exact absurd c_6 (by decide)
                    · skip
                      have L608 :  gW Θ l D ad 37 608 [(27, .int (J (htU z (i) (2)))), (26, .int (J (htU z (i) (1)))), (25, .int (J (htU z (i) (0)))), (0, .ref b), (1, .ref (ad 7 (0))), (2, .ref (ad 41 (0))), (3, .ref (ad 42 (0))), (4, .ref (ad 43 (0))), (5, .int (J (z 10 0 0))), (6, .long (Lg (bg))), (8, .int (J (t))), (9, .int (J (xx))), (10, .int (J (z 16 0 0))), (11, .int (J (z 15 0 0))), (12, .int (J (trU z))), (13, .int (J (tcU z))), (14, .int (J (twU z))), (15, .int (J (cmB z))), (16, .int (J (clB z))), (18, .int (J (i))), (17, .int (J ((fo) + (if vU z i (z 15 0 0) = 0 then 1 else 0)))), (19, .int (J (0))), (20, .int (J (bU z i (z 15 0 0)))), (21, .int (J (vU z i (z 15 0 0))))] [.int (J (htU z i (vU z i (z 15 0 0))))] u_543 y := by
                        refine g_iload F dL_law_608 13 rfl ?_
                        refine g_ishr F dL_law_610 (htU z i (vU z i (z 15 0 0)) / p2 (z 15 0 0)) (J_shr (ht_r z i _) ⟨by omega, by omega⟩) ?_
                        refine g_iconst F dL_law_611 (1) (by decide) ?_
                        refine g_iand F dL_law_612 (1) (by rw [J_bt (ht_r z i _) ⟨by omega, by omega⟩, ht_at h15]) ?_
                        refine g_iconst F dL_law_613 (1) (by decide) ?_
                        refine g_icmp_eq 619 F dL_law_614 (by decide) (by decide) rfl (fun c_7 => ?_) (fun c_7 => ?_)
                        · skip
                          refine g_aload_n F dL_law_619 rfl 4 rfl ?_
                          refine g_iconst F dL_law_620 (2) (by decide) ?_
                          refine g_callV 1 F (As := [.int (J (2))]) (st := []) (c_X7_heat l D ad u_543 y (2) (by omega) (KP_I A_u_543)) (gR_7) rfl mk_L_80 ki_X7_heat kc_X7_heat (by decide +kernel) rfl (by decide) dL_law_621 rfl (Nat.le_of_ble_eq_true rfl) (pI_k ?_)
                          refine g_topi (b := kH (z 15 0 0 + 2)) ((hea_kp A_u_543 (by omega) hn (by decide) (by decide)).1) ?_
                          refine g_nm (P := fun u_621 => HK z r (kH (z 15 0 0 + 2)) u_621) ((hea_kp A_u_543 (by omega) hn (by decide) (by decide)).2) (fun u_621 ⟨g1, g17, g20, g16, g15⟩ => ?_)
                          have B_u_621 := KP_rf g1.1
                          have g10 := EXT_10 g1
                          have rk : z 15 0 0 ≤ kH (z 15 0 0 + 2) ∧ kH (z 15 0 0 + 2) ≤ 30 := by unfold kH; omega
                          have b0 := bU_0 z i (z 15 0 0)
                          have b1 : bU z i (z 15 0 0) ≤ bU u_621 i (u_621 15 0 0) := by rw [bU_cS g1.2.1 hi.1 hi.2, g15]; exact bU_m hz.1 rk.1
                          have b2 := bU_r g1.1.1.1 (g1.1.1.2.2.2 i hi.1 (by omega)) (h := u_621 15 0 0) (by omega)
                          refine g_iload F dL_law_624 13 rfl ?_
                          refine g_icmp_lt 656 F dL_law_626 (by omega) (by omega) rfl (fun c_8 => ?_) (fun c_8 => ?_)
                          · skip
                            exfalso; omega
                          · skip
                            refine g_aload_n F dL_law_629 rfl 4 rfl ?_
                            refine g_iload F dL_law_630 19 rfl ?_
                            refine g_iconst F dL_law_632 (4) (by decide) ?_
                            refine g_callS 3 F (As := [.ref (ad 7 (0)), .int (J (i)), .int (J (4))]) (st := []) (c_L_tell l D ad u_621 y (i) (4) (KP_I B_u_621) (⟨by omega, by rw [KP_10 B_u_621]; omega⟩) (by omega)) rfl mk_L_106 ki_L_tell kc_L_tell (by decide +kernel) rfl (by decide) dL_law_633 rfl (Nat.le_of_ble_eq_true rfl) (pI_k ?_)
                            refine g_topi (b := bU u_621 (i) (u_621 15 0 0)) (td4 B_u_621 (by omega) (by omega)) ?_
                            refine g_nm (P := fun u_633 => KP u_621 u_621 u_633) (KP_tell B_u_621 _) (fun u_633 A_u_633 => ?_)
                            refine g_iload F dL_law_636 22 rfl ?_
                            refine g_icmp_lt 656 F dL_law_638 (by omega) (by omega) rfl (fun c_9 => ?_) (fun c_9 => ?_)
                            · skip
                              exfalso; omega
                            · skip
                              refine g_aload_n F dL_law_641 rfl 4 rfl ?_
                              refine g_iload F dL_law_642 12 rfl ?_
                              refine g_callV 1 F (As := [.int (J (z 16 0 0))]) (st := []) (c_X7_undo l D ad u_633 y (z 16 0 0) (by omega) (KP_I A_u_633)) (gR_7) rfl mk_L_110 ki_X7_undo kc_X7_undo (by decide +kernel) rfl (by decide) dL_law_644 rfl (Nat.le_of_ble_eq_true rfl) (pI_k ?_)
                              refine g_topi (b := 1) ((undo_k (m := 1) hz (EXT_tr g1 A_u_633.1.1) (A_u_633.1.2.2.trans g16) (A_u_633.2.1.trans g17) (A_u_633.2.2.trans g20)).1) ?_
                              refine g_nm (P := fun u_644 => KP z r u_644) ((undo_k (m := 1) hz (EXT_tr g1 A_u_633.1.1) (A_u_633.1.2.2.trans g16) (A_u_633.2.1.trans g17) (A_u_633.2.2.trans g20)).2) (fun u_644 A_u_644 => ?_)
                              refine g_iconst F dL_law_647 (1) (by decide) ?_
                              refine g_icmp_ne 656 F dL_law_648 (by decide) (by decide) rfl (fun c_10 => ?_) (fun c_10 => ?_)
                              · skip
                                exact absurd c_10 (by decide)
                              · skip
                                refine g_iload F dL_law_651 22 rfl ?_
                                refine g_if_ge 658 F dL_law_653 (by omega) rfl (fun c_11 => ?_) (fun c_11 => ?_)
                                · skip
                                  refine g_sub [3, 4, 5, 6, 7, 8, 9, 10, 11, 12, 13, 14, 15, 16, 17, 18, 20, 19] (lv' := [(0, .ref b), (1, .ref (ad 7 (0))), (2, .ref (ad 41 (0))), (3, .ref (ad 42 (0))), (4, .ref (ad 43 (0))), (5, .int (J (z 10 0 0))), (6, .long (Lg (bg))), (8, .int (J (t))), (9, .int (J (xx))), (10, .int (J (z 16 0 0))), (11, .int (J (z 15 0 0))), (12, .int (J (trU z))), (13, .int (J (tcU z))), (14, .int (J (twU z))), (15, .int (J (cmB z))), (16, .int (J (clB z))), (17, .int (J ((fo) + (if vU z i (z 15 0 0) = 0 then 1 else 0)))), (18, .int (J (i)))]) rfl ?_
                                  exact kk _ (KP_re A_u_644)
                                · skip
                                  exfalso; omega
                        · skip
                          exact absurd c_7 (by decide)
                      refine g_iload F dL_law_585 23 rfl ?_
                      refine g_if_ne 595 F dL_law_587 (by omega) rfl (fun c_12 => ?_) (fun c_12 => ?_)
                      · skip
                        refine g_iload F dL_law_595 23 rfl ?_
                        refine g_iconst F dL_law_597 (1) (by decide) ?_
                        refine g_icmp_ne 606 F dL_law_598 (by omega) (by decide) rfl (fun c_13 => ?_) (fun c_13 => ?_)
                        · skip
                          refine g_iload F dL_law_606 0 rfl ?_
                          refine g_topi (b := htU z i (vU z i (z 15 0 0))) (by rw [show vU z i (z 15 0 0) = 2 by omega]) ?_
                          exact L608  
                        · skip
                          have hc1 : vU z i (z 15 0 0) = 1 := by omega
                          refine g_iload F dL_law_601 1 rfl ?_
                          refine g_topi (b := htU z i (vU z i (z 15 0 0))) (by rw [hc1]) ?_
                          refine g_goto F 608 dL_law_603 rfl ?_
                          exact L608  
                      · skip
                        have hc0 : vU z i (z 15 0 0) = 0 := by omega
                        refine g_iload F dL_law_590 2 rfl ?_
                        refine g_topi (b := htU z i (vU z i (z 15 0 0))) (by rw [hc0]) ?_
                        refine g_goto F 608 dL_law_592 rfl ?_
                        exact L608  
            refine g_iload F dL_law_477 14 rfl ?_
            refine g_iload F dL_law_479 16 rfl ?_
            refine g_ishr F dL_law_481 (cmB z / p2 i) (J_shr ⟨hcm.1, by omega⟩ ⟨by omega, by omega⟩) ?_
            refine g_iconst F dL_law_482 (1) (by decide) ?_
            refine g_iand F dL_law_483 (cmB z / p2 i % 2) (J_bt ⟨hcm.1, by omega⟩ ⟨by omega, by omega⟩) ?_
            have L498 :  gW Θ l D ad 37 498 [(0, .ref b), (1, .ref (ad 7 (0))), (2, .ref (ad 41 (0))), (3, .ref (ad 42 (0))), (4, .ref (ad 43 (0))), (5, .int (J (z 10 0 0))), (6, .long (Lg (bg))), (8, .int (J (t))), (9, .int (J (xx))), (10, .int (J (z 16 0 0))), (11, .int (J (z 15 0 0))), (12, .int (J (trU z))), (13, .int (J (tcU z))), (14, .int (J (twU z))), (15, .int (J (cmB z))), (16, .int (J (clB z))), (18, .int (J (i))), (17, .int (J ((fo) + (if vU z i (z 15 0 0) = 0 then 1 else 0)))), (19, .int (J (0))), (20, .int (J (bU z i (z 15 0 0)))), (21, .int (J (vU z i (z 15 0 0))))] [] u2 y := by
              refine g_iload F dL_law_498 15 rfl ?_
              refine g_iload F dL_law_500 16 rfl ?_
              refine g_ishr F dL_law_502 (clB z / p2 i) (J_shr ⟨hcl.1, by omega⟩ ⟨by omega, by omega⟩) ?_
              refine g_iconst F dL_law_503 (1) (by decide) ?_
              refine g_iand F dL_law_504 (clB z / p2 i % 2) (J_bt ⟨hcl.1, by omega⟩ ⟨by omega, by omega⟩) ?_
              refine g_topi (b := if vU z i (z 15 0 0) = 1 then 1 else 0) (by rw [bit_of (P := fun i => z 6 i 0 = -9 ∧ vU z i (z 15 0 0) = 1) hi.1 hi.2]; exact ite_congr (propext ⟨fun c => c.2, fun c => ⟨ht, c⟩⟩) (fun _ => rfl) (fun _ => rfl)) ?_
              refine g_iload F dL_law_505 20 rfl ?_
              refine g_iconst F dL_law_507 (1) (by decide) ?_
              refine g_icmp_ne 515 F dL_law_508 (by omega) (by decide) rfl (fun c_14 => ?_) (fun c_14 => ?_)
              · skip
                refine g_iconst F dL_law_515 (0) (by decide) ?_
                refine g_icmp_eq 521 F dL_law_516 (b01) (by decide) rfl (fun c_15 => ?_) (fun c_15 => ?_)
                · skip
                  exact L521  
                · skip
                  exfalso; omega
              · skip
                refine g_iconst F dL_law_511 (1) (by decide) ?_
                refine g_goto F 516 dL_law_512 rfl ?_
                refine g_icmp_eq 521 F dL_law_516 (b01) (by decide) rfl (fun c_16 => ?_) (fun c_16 => ?_)
                · skip
                  exact L521  
                · skip
                  exfalso; omega
            refine g_topi (b := if vU z i (z 15 0 0) ≠ 2 then 1 else 0) (by rw [bit_of (P := fun i => z 6 i 0 = -9 ∧ vU z i (z 15 0 0) ≠ 2) hi.1 hi.2]; exact ite_congr (propext ⟨fun c => c.2, fun c => ⟨ht, c⟩⟩) (fun _ => rfl) (fun _ => rfl)) ?_
            refine g_iload F dL_law_484 20 rfl ?_
            refine g_iconst F dL_law_486 (2) (by decide) ?_
            refine g_icmp_ne 494 F dL_law_487 (by omega) (by decide) rfl (fun c_17 => ?_) (fun c_17 => ?_)
            · skip
              refine g_iconst F dL_law_494 (1) (by decide) ?_
              refine g_icmp_ne 519 F dL_law_495 (b01) (by decide) rfl (fun c_18 => ?_) (fun c_18 => ?_)
              · skip
                exfalso; omega
              · skip
                exact L498  
            · skip
              refine g_iconst F dL_law_490 (0) (by decide) ?_
              refine g_goto F 495 dL_law_491 rfl ?_
              refine g_icmp_ne 519 F dL_law_495 (b01) (by decide) rfl (fun c_19 => ?_) (fun c_19 => ?_)
              · skip
                exfalso; omega
              · skip
                exact L498  
        refine g_istore F [(17, .int (J ((fo) + (if vU z i (z 15 0 0) = 0 then 1 else 0)))), (24, .int (J (wr))), (23, .int (J (vU z i (z 15 0 0)))), (22, .int (J (z 2 (i) 0))), (21, .int (J (vU z i (z 15 0 0)))), (20, .int (J (bU z (i) (z 15 0 0)))), (19, .int (J (0))), (0, .ref b), (1, .ref (ad 7 (0))), (2, .ref (ad 41 (0))), (3, .ref (ad 42 (0))), (4, .ref (ad 43 (0))), (5, .int (J (z 10 0 0))), (6, .long (Lg (bg))), (8, .int (J (t))), (9, .int (J (xx))), (10, .int (J (z 16 0 0))), (11, .int (J (z 15 0 0))), (12, .int (J (trU z))), (13, .int (J (tcU z))), (14, .int (J (twU z))), (15, .int (J (cmB z))), (16, .int (J (clB z))), (18, .int (J (i)))] dL_law_301 (by decide) rfl ?_
        refine g_iload F dL_law_303 6 rfl ?_
        refine g_if_eq 329 F dL_law_305 (by decide) rfl (fun c_20 => ?_) (fun c_20 => ?_)
        · skip
          have L362 :  gW Θ l D ad 37 362 [(17, .int (J ((fo) + (if vU z i (z 15 0 0) = 0 then 1 else 0)))), (24, .int (J (wr))), (23, .int (J (vU z i (z 15 0 0)))), (22, .int (J (z 2 (i) 0))), (21, .int (J (vU z i (z 15 0 0)))), (20, .int (J (bU z (i) (z 15 0 0)))), (19, .int (J (0))), (0, .ref b), (1, .ref (ad 7 (0))), (2, .ref (ad 41 (0))), (3, .ref (ad 42 (0))), (4, .ref (ad 43 (0))), (5, .int (J (z 10 0 0))), (6, .long (Lg (bg))), (8, .int (J (t))), (9, .int (J (xx))), (10, .int (J (z 16 0 0))), (11, .int (J (z 15 0 0))), (12, .int (J (trU z))), (13, .int (J (tcU z))), (14, .int (J (twU z))), (15, .int (J (cmB z))), (16, .int (J (clB z))), (18, .int (J (i)))] [] u_272 y := by
            refine g_aload_n F dL_law_362 rfl 8 rfl ?_
            refine g_iload F dL_law_363 23 rfl ?_
            refine g_bipush F dL_law_365 (8) (by decide) ?_
            refine g_callS 3 F (As := [.ref (ad 7 (0)), .int (J (i)), .int (J (8))]) (st := []) (c_L_tell l D ad u_272 y (i) (8) (KP_I B_u_272) (⟨by omega, by rw [KP_10 B_u_272]; omega⟩) (by omega)) rfl mk_L_106 ki_L_tell kc_L_tell (by decide +kernel) rfl (by decide) dL_law_367 rfl (Nat.le_of_ble_eq_true rfl) (pI_k ?_)
            refine g_topi (b := u_272 6 (i) 0) (td8 B_u_272 (by omega) (by omega)) ?_
            refine g_nm (P := fun u_367 => KP u_272 u_272 u_367) (KP_tell B_u_272 _) (fun u_367 A_u_367 => ?_)
            refine g_topi (b := vU z i (z 15 0 0)) (by rw [k6]) ?_
            refine g_iload F dL_law_370 2 rfl ?_
            refine g_icmp_ne 470 F dL_law_372 (by omega) (by omega) rfl (fun c_21 => ?_) (fun c_21 => ?_)
            · skip
              exact absurd rfl c_21
            · skip
              refine g_aload_n F dL_law_375 rfl 8 rfl ?_
              refine g_iconst F dL_law_376 (5) (by decide) ?_
              refine g_callV 1 F (As := [.int (J (5))]) (st := []) (c_X7_count l D ad u_367 y (5) (by omega) (KP_I A_u_367)) (gR_7) rfl mk_L_101 ki_X7_count kc_X7_count (by decide +kernel) rfl (by decide) dL_law_377 rfl (Nat.le_of_ble_eq_true rfl) (pI_k ?_)
              refine g_topi (b := twU u_272) (ct5 A_u_367) ?_
              refine g_iload F dL_law_380 20 rfl ?_
              refine g_iload F dL_law_382 1 rfl ?_
              refine g_iadd F dL_law_384 ?_
              refine g_icmp_ne 470 F dL_law_385 (by omega) (by omega) rfl (fun c_22 => ?_) (fun c_22 => ?_)
              · skip
                exfalso; omega
              · skip
                have L410 :  gW Θ l D ad 37 410 [(17, .int (J ((fo) + (if vU z i (z 15 0 0) = 0 then 1 else 0)))), (24, .int (J (wr))), (23, .int (J (vU z i (z 15 0 0)))), (22, .int (J (z 2 (i) 0))), (21, .int (J (vU z i (z 15 0 0)))), (20, .int (J (bU z (i) (z 15 0 0)))), (19, .int (J (0))), (0, .ref b), (1, .ref (ad 7 (0))), (2, .ref (ad 41 (0))), (3, .ref (ad 42 (0))), (4, .ref (ad 43 (0))), (5, .int (J (z 10 0 0))), (6, .long (Lg (bg))), (8, .int (J (t))), (9, .int (J (xx))), (10, .int (J (z 16 0 0))), (11, .int (J (z 15 0 0))), (12, .int (J (trU z))), (13, .int (J (tcU z))), (14, .int (J (twU z))), (15, .int (J (cmB z))), (16, .int (J (clB z))), (18, .int (J (i)))] [] u_367 y := by
                  refine g_aload_n F dL_law_410 rfl 8 rfl ?_
                  refine g_iconst F dL_law_411 (1) (by decide) ?_
                  refine g_callV 1 F (As := [.int (J (1))]) (st := []) (c_X7_count l D ad u_367 y (1) (by omega) (KP_I A_u_367)) (gR_7) rfl mk_L_101 ki_X7_count kc_X7_count (by decide +kernel) rfl (by decide) dL_law_412 rfl (Nat.le_of_ble_eq_true rfl) (pI_k ?_)
                  refine g_topi (b := u_272 15 0 0) (ct1 A_u_367) ?_
                  refine g_iload F dL_law_415 17 rfl ?_
                  refine g_icmp_lt 470 F dL_law_417 (by omega) (by omega) rfl (fun c_23 => ?_) (fun c_23 => ?_)
                  · skip
                    exfalso; omega
                  · skip
                    have L436 :  gW Θ l D ad 37 436 [(17, .int (J ((fo) + (if vU z i (z 15 0 0) = 0 then 1 else 0)))), (24, .int (J (wr))), (23, .int (J (vU z i (z 15 0 0)))), (22, .int (J (z 2 (i) 0))), (21, .int (J (vU z i (z 15 0 0)))), (20, .int (J (bU z (i) (z 15 0 0)))), (19, .int (J (0))), (0, .ref b), (1, .ref (ad 7 (0))), (2, .ref (ad 41 (0))), (3, .ref (ad 42 (0))), (4, .ref (ad 43 (0))), (5, .int (J (z 10 0 0))), (6, .long (Lg (bg))), (8, .int (J (t))), (9, .int (J (xx))), (10, .int (J (z 16 0 0))), (11, .int (J (z 15 0 0))), (12, .int (J (trU z))), (13, .int (J (tcU z))), (14, .int (J (twU z))), (15, .int (J (cmB z))), (16, .int (J (clB z))), (18, .int (J (i)))] [] u_367 y := by
                      refine g_aload_n F dL_law_436 rfl 8 rfl ?_
                      refine g_iload F dL_law_437 23 rfl ?_
                      refine g_callV 1 F (As := [.int (J (i))]) (st := []) (c_X7_trial l D ad u_367 y (i) (by omega) (KP_I A_u_367)) (gR_7) rfl mk_L_71 ki_X7_trial kc_X7_trial (by decide +kernel) rfl (by decide) dL_law_439 rfl (Nat.le_of_ble_eq_true rfl) (pI_k ?_)
                      refine g_topi (b := -4) ((tri_no A_u_367 (by omega) (by omega) (by rw [k6]; omega)).1) ?_
                      refine g_nm (P := fun u_439 => KP u_272 u_272 u_439) ((tri_no A_u_367 (by omega) (by omega) (by rw [k6]; omega)).2) (fun u_439 A_u_439 => ?_)
                      refine g_bipush F dL_law_442 (-4) (by decide) ?_
                      refine g_icmp_ne 470 F dL_law_444 (by decide) (by decide) rfl (fun c_24 => ?_) (fun c_24 => ?_)
                      · skip
                        exact absurd c_24 (by decide)
                      · skip
                        refine g_aload_n F dL_law_447 rfl 8 rfl ?_
                        refine g_iload F dL_law_448 16 rfl ?_
                        refine g_callV 1 F (As := [.int (J (z 16 0 0))]) (st := []) (c_X7_undo l D ad u_439 y (z 16 0 0) (by omega) (KP_I A_u_439)) (gR_7) rfl mk_L_110 ki_X7_undo kc_X7_undo (by decide +kernel) rfl (by decide) dL_law_450 rfl (Nat.le_of_ble_eq_true rfl) (pI_k ?_)
                        refine g_topi (b := 1) ((undo_k (m := 1) hz (EXT_tr k1 A_u_439.1.1) (A_u_439.1.2.2.trans k16) (A_u_439.2.1.trans k17) (A_u_439.2.2.trans k20)).1) ?_
                        refine g_nm (P := fun u_450 => KP z r u_450) ((undo_k (m := 1) hz (EXT_tr k1 A_u_439.1.1) (A_u_439.1.2.2.trans k16) (A_u_439.2.1.trans k17) (A_u_439.2.2.trans k20)).2) (fun u_450 A_u_450 => ?_)
                        refine g_iconst F dL_law_453 (1) (by decide) ?_
                        refine g_icmp_ne 470 F dL_law_454 (by decide) (by decide) rfl (fun c_25 => ?_) (fun c_25 => ?_)
                        · skip
                          exact absurd c_25 (by decide)
                        · skip
                          refine g_aload_n F dL_law_457 rfl 8 rfl ?_
                          refine g_iload F dL_law_458 23 rfl ?_
                          refine g_bipush F dL_law_460 (8) (by decide) ?_
                          refine g_callS 3 F (As := [.ref (ad 7 (0)), .int (J (i)), .int (J (8))]) (st := []) (c_L_tell l D ad u_450 y (i) (8) (KP_I A_u_450) (⟨by omega, by rw [KP_10 A_u_450]; omega⟩) (by omega)) rfl mk_L_106 ki_L_tell kc_L_tell (by decide +kernel) rfl (by decide) dL_law_462 rfl (Nat.le_of_ble_eq_true rfl) (pI_k ?_)
                          refine g_topi (b := z 6 (i) 0) (td8 A_u_450 (by omega) (by omega)) ?_
                          refine g_nm (P := fun u_462 => KP z r u_462) (KP_tell A_u_450 _) (fun u_462 A_u_462 => ?_)
                          refine g_topi (b := -9) (ht) ?_
                          refine g_bipush F dL_law_465 (-9) (by decide) ?_
                          refine g_icmp_eq 472 F dL_law_467 (by decide) (by decide) rfl (fun c_26 => ?_) (fun c_26 => ?_)
                          · skip
                            refine g_sub [7, 8, 9, 10, 11, 12, 13, 14, 15, 16, 17, 18, 19, 20, 21, 22, 23, 0, 6, 5, 4] (lv' := [(0, .ref b), (1, .ref (ad 7 (0))), (2, .ref (ad 41 (0))), (3, .ref (ad 42 (0))), (4, .ref (ad 43 (0))), (5, .int (J (z 10 0 0))), (6, .long (Lg (bg))), (8, .int (J (t))), (9, .int (J (xx))), (10, .int (J (z 16 0 0))), (11, .int (J (z 15 0 0))), (12, .int (J (trU z))), (13, .int (J (tcU z))), (14, .int (J (twU z))), (15, .int (J (cmB z))), (16, .int (J (clB z))), (18, .int (J (i))), (17, .int (J ((fo) + (if vU z i (z 15 0 0) = 0 then 1 else 0)))), (19, .int (J (0))), (20, .int (J (bU z (i) (z 15 0 0)))), (21, .int (J (vU z i (z 15 0 0))))]) rfl ?_
                            exact L472 (u_462) (0) (A_u_462)
                          · skip
                            exact absurd c_26 (by decide)
                    refine g_iload F dL_law_420 2 rfl ?_
                    refine g_iconst F dL_law_422 (1) (by decide) ?_
                    refine g_icmp_eq 436 F dL_law_423 (by omega) (by decide) rfl (fun c_27 => ?_) (fun c_27 => ?_)
                    · skip
                      exact L436  
                    · skip
                      have kh2 : u_272 15 0 0 = z 15 0 0 := by rw [k15]; unfold sBeh; rw [if_neg (by omega)]
                      refine g_aload_n F dL_law_426 rfl 8 rfl ?_
                      refine g_iconst F dL_law_427 (1) (by decide) ?_
                      refine g_callV 1 F (As := [.int (J (1))]) (st := []) (c_X7_count l D ad u_367 y (1) (by omega) (KP_I A_u_367)) (gR_7) rfl mk_L_101 ki_X7_count kc_X7_count (by decide +kernel) rfl (by decide) dL_law_428 rfl (Nat.le_of_ble_eq_true rfl) (pI_k ?_)
                      refine g_topi (b := u_272 15 0 0) (ct1 A_u_367) ?_
                      refine g_iload F dL_law_431 17 rfl ?_
                      refine g_icmp_ne 470 F dL_law_433 (by omega) (by omega) rfl (fun c_28 => ?_) (fun c_28 => ?_)
                      · skip
                        exfalso; omega
                      · skip
                        exact L436  
                refine g_aload_n F dL_law_388 rfl 8 rfl ?_
                refine g_iconst F dL_law_389 (4) (by decide) ?_
                refine g_callV 1 F (As := [.int (J (4))]) (st := []) (c_X7_count l D ad u_367 y (4) (by omega) (KP_I A_u_367)) (gR_7) rfl mk_L_101 ki_X7_count kc_X7_count (by decide +kernel) rfl (by decide) dL_law_390 rfl (Nat.le_of_ble_eq_true rfl) (pI_k ?_)
                refine g_topi (b := tcU u_272) (ct4 A_u_367) ?_
                refine g_iload F dL_law_393 19 rfl ?_
                refine g_iload F dL_law_395 2 rfl ?_
                refine g_iconst F dL_law_397 (1) (by decide) ?_
                refine g_icmp_ne 405 F dL_law_398 (by omega) (by decide) rfl (fun c_29 => ?_) (fun c_29 => ?_)
                · skip
                  have kc2 : tcU u_272 = tcU z + 0 := by rw [kc, if_neg c_29]
                  refine g_iconst F dL_law_405 (0) (by decide) ?_
                  refine g_iadd F dL_law_406 ?_
                  refine g_icmp_ne 470 F dL_law_407 (by omega) (by omega) rfl (fun c_30 => ?_) (fun c_30 => ?_)
                  · skip
                    exfalso; omega
                  · skip
                    exact L410  
                · skip
                  have kc2 : tcU u_272 = tcU z + 1 := by rw [kc, if_pos c_29]
                  refine g_iconst F dL_law_401 (1) (by decide) ?_
                  refine g_goto F 406 dL_law_402 rfl ?_
                  refine g_iadd F dL_law_406 ?_
                  refine g_icmp_ne 470 F dL_law_407 (by omega) (by omega) rfl (fun c_31 => ?_) (fun c_31 => ?_)
                  · skip
                    exfalso; omega
                  · skip
                    exact L410  
          refine g_iload F dL_law_329 2 rfl ?_
          refine g_iload F dL_law_331 4 rfl ?_
          refine g_icmp_ne 470 F dL_law_333 (by omega) (by omega) rfl (fun c_32 => ?_) (fun c_32 => ?_)
          · skip
            exact absurd rfl c_32
          · skip
            refine g_iload F dL_law_336 1 rfl ?_
            refine g_iload F dL_law_338 3 rfl ?_
            refine g_iload F dL_law_340 2 rfl ?_
            refine g_iconst F dL_law_342 (1) (by decide) ?_
            refine g_icmp_ne 350 F dL_law_343 (by omega) (by decide) rfl (fun c_33 => ?_) (fun c_33 => ?_)
            · skip
              refine g_iconst F dL_law_350 (0) (by decide) ?_
              refine g_icmp_ne 358 F dL_law_351 (by omega) (by decide) rfl (fun c_34 => ?_) (fun c_34 => ?_)
              · skip
                refine g_iconst F dL_law_358 (0) (by decide) ?_
                refine g_icmp_ne 470 F dL_law_359 (by omega) (by decide) rfl (fun c_35 => ?_) (fun c_35 => ?_)
                · skip
                  exfalso; omega
                · skip
                  exact L362  
              · skip
                refine g_iconst F dL_law_354 (1) (by decide) ?_
                refine g_goto F 359 dL_law_355 rfl ?_
                refine g_icmp_ne 470 F dL_law_359 (by omega) (by decide) rfl (fun c_36 => ?_) (fun c_36 => ?_)
                · skip
                  exfalso; omega
                · skip
                  exact L362  
            · skip
              refine g_iconst F dL_law_346 (1) (by decide) ?_
              refine g_goto F 351 dL_law_347 rfl ?_
              refine g_icmp_ne 358 F dL_law_351 (by omega) (by decide) rfl (fun c_37 => ?_) (fun c_37 => ?_)
              · skip
                refine g_iconst F dL_law_358 (0) (by decide) ?_
                refine g_icmp_ne 470 F dL_law_359 (by omega) (by decide) rfl (fun c_38 => ?_) (fun c_38 => ?_)
                · skip
                  exfalso; omega
                · skip
                  exact L362  
              · skip
                refine g_iconst F dL_law_354 (1) (by decide) ?_
                refine g_goto F 359 dL_law_355 rfl ?_
                refine g_icmp_ne 470 F dL_law_359 (by omega) (by decide) rfl (fun c_39 => ?_) (fun c_39 => ?_)
                · skip
                  exfalso; omega
                · skip
                  exact L362  
        · skip
          exact absurd c_20 (by decide)
      refine g_iload F dL_law_283 22 rfl ?_
      refine g_iload F dL_law_285 5 rfl ?_
      refine g_if_ne 299 F dL_law_287 (by decide) rfl (fun c_40 => ?_) (fun c_40 => ?_)
      · skip
        exact absurd c_40 (by decide)
      · skip
        refine g_iload F dL_law_290 3 rfl ?_
        refine g_if_ne 299 F dL_law_292 (by omega) rfl (fun c_41 => ?_) (fun c_41 => ?_)
        · skip
          refine g_iconst F dL_law_299 (0) (by decide) ?_
          refine g_topi (b := if vU z i (z 15 0 0) = 0 then 1 else 0) (by split <;> first | rfl | (exfalso; omega)) ?_
          exact L300  
        · skip
          refine g_iconst F dL_law_295 (1) (by decide) ?_
          refine g_goto F 300 dL_law_296 rfl ?_
          refine g_topi (b := if vU z i (z 15 0 0) = 0 then 1 else 0) (by split <;> first | rfl | (exfalso; omega)) ?_
          exact L300  
    refine g_aload_n F dL_law_236 rfl 3 rfl ?_
    refine g_iload F dL_law_237 19 rfl ?_
    refine g_iconst F dL_law_239 (5) (by decide) ?_
    refine g_callS 3 F (As := [.ref (ad 7 (0)), .int (J (i)), .int (J (5))]) (st := []) (c_L_tell l D ad u_231 y (i) (5) (KP_I A_u_231) (⟨by omega, by rw [KP_10 A_u_231]; omega⟩) (by omega)) rfl mk_L_106 ki_L_tell kc_L_tell (by decide +kernel) rfl (by decide) dL_law_240 rfl (Nat.le_of_ble_eq_true rfl) (pI_k ?_)
    refine g_topi (b := if cU z (i) (z 15 0 0) then 1 else 0) (td5 A_u_231 (by omega) (by omega)) ?_
    refine g_nm (P := fun u_240 => KP z r u_240) (KP_tell A_u_231 _) (fun u_240 A_u_240 => ?_)
    refine g_ifb_ne 250 F dL_law_243 rfl (fun c_42 => ?_) (fun c_42 => ?_)
    · skip
      have hcc := c_42
      refine g_aload_n F dL_law_250 rfl 3 rfl ?_
      refine g_iload F dL_law_251 19 rfl ?_
      refine g_bipush F dL_law_253 (6) (by decide) ?_
      refine g_callS 3 F (As := [.ref (ad 7 (0)), .int (J (i)), .int (J (6))]) (st := []) (c_L_tell l D ad u_240 y (i) (6) (KP_I A_u_240) (⟨by omega, by rw [KP_10 A_u_240]; omega⟩) (by omega)) rfl mk_L_106 ki_L_tell kc_L_tell (by decide +kernel) rfl (by decide) dL_law_255 rfl (Nat.le_of_ble_eq_true rfl) (pI_k ?_)
      refine g_topi (b := vU z i (z 15 0 0)) (td6v A_u_240 (by omega) (by omega) hcc) ?_
      refine g_nm (P := fun u_255 => KP z r u_255) (KP_tell A_u_240 _) (fun u_255 A_u_255 => ?_)
      exact L258 (u_255) (A_u_255)
    · skip
      have hcc := c_42
      refine g_iconst F dL_law_246 (2) (by decide) ?_
      refine g_topi (b := vU z i (z 15 0 0)) (vU_c hcc) ?_
      refine g_goto F 258 dL_law_247 rfl ?_
      exact L258 (u_240) (A_u_240)
  · skip
    exact absurd c_1 (by decide)
set_option maxHeartbeats 1000000 in
set_option maxRecDepth 20000 in
theorem law_B2 {Θ : gT} {l : Launch} {D : gD} {ad : gA} {b : Nat} {z r : gX} {bg t xx fo i : Int} {u : gX} {y : gY} (F : gF Θ l D ad cL_law RL 37 20) (hz : INV z) (hn : 1 ≤ z 10 0 0) (h16 : z 16 0 0 ≤ 9) (A : KP z r u) (hi : 0 ≤ i ∧ i < z 10 0 0) (hf : 0 ≤ fo ∧ fo ≤ 6) (ht : z 6 i 0 ≠ -9) (kk : ∀ v : gX, KP z v v → gW Θ l D ad 37 658 [(0, .ref b), (1, .ref (ad 7 (0))), (2, .ref (ad 41 (0))), (3, .ref (ad 42 (0))), (4, .ref (ad 43 (0))), (5, .int (J (z 10 0 0))), (6, .long (Lg (bg))), (8, .int (J (t))), (9, .int (J (xx))), (10, .int (J (z 16 0 0))), (11, .int (J (z 15 0 0))), (12, .int (J (trU z))), (13, .int (J (tcU z))), (14, .int (J (twU z))), (15, .int (J (cmB z))), (16, .int (J (clB z))), (17, .int (J ((fo) + (0)))), (18, .int (J (i)))] [] v y) : gW Θ l D ad 37 209 [(0, .ref b), (1, .ref (ad 7 (0))), (2, .ref (ad 41 (0))), (3, .ref (ad 42 (0))), (4, .ref (ad 43 (0))), (5, .int (J (z 10 0 0))), (6, .long (Lg (bg))), (8, .int (J (t))), (9, .int (J (xx))), (10, .int (J (z 16 0 0))), (11, .int (J (z 15 0 0))), (12, .int (J (trU z))), (13, .int (J (tcU z))), (14, .int (J (twU z))), (15, .int (J (cmB z))), (16, .int (J (clB z))), (17, .int (J (fo))), (18, .int (J (i)))] [] u y := by
  have h10 := hz.1.2.1
  have h15 := hz.1.2.2.1
  have h160 := hz.2.2.1.1.1
  have htr := trU_r hz.1
  have hcm := cmB_r hz.1
  have hcl := clB_r hz.1
  have htc := tc_r hz.1
  have htw := tw_r hz.1
  have hm := hz.1.2.2.2 i hi.1 hi.2
  have hv := vU_r z i (z 15 0 0)
  have hb := bU_r hz.1.1 hm (h := z 15 0 0) (by omega)
  have r0 := ht_r z i 0
  have r1 := ht_r z i 1
  have r2 := ht_r z i 2
  have h6p := INV_VT hz hi.1 hi.2
  refine g_iload F dL_law_209 11 rfl ?_
  refine g_iload F dL_law_211 17 rfl ?_
  refine g_ishr F dL_law_213 (trU z / p2 i) (J_shr ⟨htr.1, by omega⟩ ⟨by omega, by omega⟩) ?_
  refine g_iconst F dL_law_214 (1) (by decide) ?_
  refine g_iand F dL_law_215 (trU z / p2 i % 2) (J_bt ⟨htr.1, by omega⟩ ⟨by omega, by omega⟩) ?_
  refine g_topi (b := 1) (by rw [bit_of (P := fun q => z 6 q 0 ≠ -9) hi.1 hi.2, if_pos ht]) ?_
  refine g_iconst F dL_law_216 (1) (by decide) ?_
  refine g_icmp_ne 224 F dL_law_217 (by decide) (by decide) rfl (fun c_1 => ?_) (fun c_1 => ?_)
  · skip
    exact absurd c_1 (by decide)
  · skip
    refine g_iconst F dL_law_220 (1) (by decide) ?_
    refine g_goto F 225 dL_law_221 rfl ?_
    refine g_istore F [(19, .int (J (1))), (0, .ref b), (1, .ref (ad 7 (0))), (2, .ref (ad 41 (0))), (3, .ref (ad 42 (0))), (4, .ref (ad 43 (0))), (5, .int (J (z 10 0 0))), (6, .long (Lg (bg))), (8, .int (J (t))), (9, .int (J (xx))), (10, .int (J (z 16 0 0))), (11, .int (J (z 15 0 0))), (12, .int (J (trU z))), (13, .int (J (tcU z))), (14, .int (J (twU z))), (15, .int (J (cmB z))), (16, .int (J (clB z))), (17, .int (J (fo))), (18, .int (J (i)))] dL_law_225 (by decide) rfl ?_
    refine g_aload_n F dL_law_227 rfl 2 rfl ?_
    refine g_iload F dL_law_228 18 rfl ?_
    refine g_iconst F dL_law_230 (4) (by decide) ?_
    refine g_callS 3 F (As := [.ref (ad 7 (0)), .int (J (i)), .int (J (4))]) (st := []) (c_L_tell l D ad u y (i) (4) (KP_I A) (⟨by omega, by rw [KP_10 A]; omega⟩) (by omega)) rfl mk_L_106 ki_L_tell kc_L_tell (by decide +kernel) rfl (by decide) dL_law_231 rfl (Nat.le_of_ble_eq_true rfl) (pI_k ?_)
    refine g_topi (b := bU z (i) (z 15 0 0)) (td4 A (by omega) (by omega)) ?_
    refine g_nm (P := fun u_231 => KP z r u_231) (KP_tell A _) (fun u_231 A_u_231 => ?_)
    refine g_istore F [(20, .int (J (bU z (i) (z 15 0 0)))), (19, .int (J (1))), (0, .ref b), (1, .ref (ad 7 (0))), (2, .ref (ad 41 (0))), (3, .ref (ad 42 (0))), (4, .ref (ad 43 (0))), (5, .int (J (z 10 0 0))), (6, .long (Lg (bg))), (8, .int (J (t))), (9, .int (J (xx))), (10, .int (J (z 16 0 0))), (11, .int (J (z 15 0 0))), (12, .int (J (trU z))), (13, .int (J (tcU z))), (14, .int (J (twU z))), (15, .int (J (cmB z))), (16, .int (J (clB z))), (17, .int (J (fo))), (18, .int (J (i)))] dL_law_234 (by decide) rfl ?_
    have L258 : ∀ (u1 : gX), KP z r u1 → gW Θ l D ad 37 258 [(20, .int (J (bU z (i) (z 15 0 0)))), (19, .int (J (1))), (0, .ref b), (1, .ref (ad 7 (0))), (2, .ref (ad 41 (0))), (3, .ref (ad 42 (0))), (4, .ref (ad 43 (0))), (5, .int (J (z 10 0 0))), (6, .long (Lg (bg))), (8, .int (J (t))), (9, .int (J (xx))), (10, .int (J (z 16 0 0))), (11, .int (J (z 15 0 0))), (12, .int (J (trU z))), (13, .int (J (tcU z))), (14, .int (J (twU z))), (15, .int (J (cmB z))), (16, .int (J (clB z))), (17, .int (J (fo))), (18, .int (J (i)))] [.int (J (vU z i (z 15 0 0)))] u1 y := by
      intro u1 A1
      refine g_istore F [(21, .int (J (vU z i (z 15 0 0)))), (20, .int (J (bU z (i) (z 15 0 0)))), (19, .int (J (1))), (0, .ref b), (1, .ref (ad 7 (0))), (2, .ref (ad 41 (0))), (3, .ref (ad 42 (0))), (4, .ref (ad 43 (0))), (5, .int (J (z 10 0 0))), (6, .long (Lg (bg))), (8, .int (J (t))), (9, .int (J (xx))), (10, .int (J (z 16 0 0))), (11, .int (J (z 15 0 0))), (12, .int (J (trU z))), (13, .int (J (tcU z))), (14, .int (J (twU z))), (15, .int (J (cmB z))), (16, .int (J (clB z))), (17, .int (J (fo))), (18, .int (J (i)))] dL_law_258 (by decide) rfl ?_
      refine g_aload_n F dL_law_260 rfl 4 rfl ?_
      refine g_iload F dL_law_261 20 rfl ?_
      refine g_iconst F dL_law_263 (1) (by decide) ?_
      refine g_callS 3 F (As := [.ref (ad 7 (0)), .int (J (i)), .int (J (1))]) (st := []) (c_L_tell l D ad u1 y (i) (1) (KP_I A1) (⟨by omega, by rw [KP_10 A1]; omega⟩) (by omega)) rfl mk_L_106 ki_L_tell kc_L_tell (by decide +kernel) rfl (by decide) dL_law_264 rfl (Nat.le_of_ble_eq_true rfl) (pI_k ?_)
      refine g_topi (b := z 2 (i) 0) (td1 A1 (by omega) (by omega)) ?_
      refine g_nm (P := fun u_264 => KP z r u_264) (KP_tell A1 _) (fun u_264 A_u_264 => ?_)
      refine g_istore F [(22, .int (J (z 2 (i) 0))), (21, .int (J (vU z i (z 15 0 0)))), (20, .int (J (bU z (i) (z 15 0 0)))), (19, .int (J (1))), (0, .ref b), (1, .ref (ad 7 (0))), (2, .ref (ad 41 (0))), (3, .ref (ad 42 (0))), (4, .ref (ad 43 (0))), (5, .int (J (z 10 0 0))), (6, .long (Lg (bg))), (8, .int (J (t))), (9, .int (J (xx))), (10, .int (J (z 16 0 0))), (11, .int (J (z 15 0 0))), (12, .int (J (trU z))), (13, .int (J (tcU z))), (14, .int (J (twU z))), (15, .int (J (cmB z))), (16, .int (J (clB z))), (17, .int (J (fo))), (18, .int (J (i)))] dL_law_267 (by decide) rfl ?_
      refine g_aload_n F dL_law_269 rfl 5 rfl ?_
      refine g_iload F dL_law_270 21 rfl ?_
      refine g_callV 1 F (As := [.int (J (i))]) (st := []) (c_X7_trial l D ad u_264 y (i) (by omega) (KP_I A_u_264)) (gR_7) rfl mk_L_71 ki_X7_trial kc_X7_trial (by decide +kernel) rfl (by decide) dL_law_272 rfl (Nat.le_of_ble_eq_true rfl) (pI_k ?_)
      refine g_topi (b := -4) ((tri_no A_u_264 hi.1 hi.2 ht).1) ?_
      refine g_nm (P := fun u_272 => KP z r u_272) ((tri_no A_u_264 hi.1 hi.2 ht).2) (fun u_272 A_u_272 => ?_)
      refine g_istore F [(23, .int (J (-4))), (22, .int (J (z 2 (i) 0))), (21, .int (J (vU z i (z 15 0 0)))), (20, .int (J (bU z (i) (z 15 0 0)))), (19, .int (J (1))), (0, .ref b), (1, .ref (ad 7 (0))), (2, .ref (ad 41 (0))), (3, .ref (ad 42 (0))), (4, .ref (ad 43 (0))), (5, .int (J (z 10 0 0))), (6, .long (Lg (bg))), (8, .int (J (t))), (9, .int (J (xx))), (10, .int (J (z 16 0 0))), (11, .int (J (z 15 0 0))), (12, .int (J (trU z))), (13, .int (J (tcU z))), (14, .int (J (twU z))), (15, .int (J (cmB z))), (16, .int (J (clB z))), (17, .int (J (fo))), (18, .int (J (i)))] dL_law_275 (by decide) rfl ?_
      refine g_aload_n F dL_law_277 rfl 6 rfl ?_
      refine g_callV 0 F (As := []) (st := []) (c_X7_asked l D ad u_272 y  ) (gR_7) rfl mk_L_73 ki_X7_asked kc_X7_asked (by decide +kernel) rfl (by decide) dL_law_278 rfl (Nat.le_of_ble_eq_true rfl) (pI_k ?_)
      refine g_nmi (P := fun wr => True) (trivial) (fun wr h_wr => ?_)
      refine g_istore F [(24, .int (J (wr))), (23, .int (J (-4))), (22, .int (J (z 2 (i) 0))), (21, .int (J (vU z i (z 15 0 0)))), (20, .int (J (bU z (i) (z 15 0 0)))), (19, .int (J (1))), (0, .ref b), (1, .ref (ad 7 (0))), (2, .ref (ad 41 (0))), (3, .ref (ad 42 (0))), (4, .ref (ad 43 (0))), (5, .int (J (z 10 0 0))), (6, .long (Lg (bg))), (8, .int (J (t))), (9, .int (J (xx))), (10, .int (J (z 16 0 0))), (11, .int (J (z 15 0 0))), (12, .int (J (trU z))), (13, .int (J (tcU z))), (14, .int (J (twU z))), (15, .int (J (cmB z))), (16, .int (J (clB z))), (17, .int (J (fo))), (18, .int (J (i)))] dL_law_281 (by decide) rfl ?_
      refine g_iload F dL_law_283 22 rfl ?_
      refine g_iload F dL_law_285 5 rfl ?_
      refine g_if_ne 299 F dL_law_287 (by decide) rfl (fun c_2 => ?_) (fun c_2 => ?_)
      · skip
        refine g_iconst F dL_law_299 (0) (by decide) ?_
        refine g_iadd F dL_law_300 ?_
        refine g_istore F [(17, .int (J ((fo) + (0)))), (24, .int (J (wr))), (23, .int (J (-4))), (22, .int (J (z 2 (i) 0))), (21, .int (J (vU z i (z 15 0 0)))), (20, .int (J (bU z (i) (z 15 0 0)))), (19, .int (J (1))), (0, .ref b), (1, .ref (ad 7 (0))), (2, .ref (ad 41 (0))), (3, .ref (ad 42 (0))), (4, .ref (ad 43 (0))), (5, .int (J (z 10 0 0))), (6, .long (Lg (bg))), (8, .int (J (t))), (9, .int (J (xx))), (10, .int (J (z 16 0 0))), (11, .int (J (z 15 0 0))), (12, .int (J (trU z))), (13, .int (J (tcU z))), (14, .int (J (twU z))), (15, .int (J (cmB z))), (16, .int (J (clB z))), (18, .int (J (i)))] dL_law_301 (by decide) rfl ?_
        refine g_iload F dL_law_303 6 rfl ?_
        refine g_if_eq 329 F dL_law_305 (by decide) rfl (fun c_3 => ?_) (fun c_3 => ?_)
        · skip
          exact absurd c_3 (by decide)
        · skip
          refine g_iload F dL_law_308 2 rfl ?_
          refine g_bipush F dL_law_310 (-4) (by decide) ?_
          refine g_icmp_ne 470 F dL_law_312 (by decide) (by decide) rfl (fun c_4 => ?_) (fun c_4 => ?_)
          · skip
            exact absurd c_4 (by decide)
          · skip
            refine g_aload_n F dL_law_315 rfl 8 rfl ?_
            refine g_iload F dL_law_316 23 rfl ?_
            refine g_bipush F dL_law_318 (8) (by decide) ?_
            refine g_callS 3 F (As := [.ref (ad 7 (0)), .int (J (i)), .int (J (8))]) (st := []) (c_L_tell l D ad u_272 y (i) (8) (KP_I A_u_272) (⟨by omega, by rw [KP_10 A_u_272]; omega⟩) (by omega)) rfl mk_L_106 ki_L_tell kc_L_tell (by decide +kernel) rfl (by decide) dL_law_320 rfl (Nat.le_of_ble_eq_true rfl) (pI_k ?_)
            refine g_topi (b := z 6 (i) 0) (td8 A_u_272 (by omega) (by omega)) ?_
            refine g_nm (P := fun u_320 => KP z r u_320) (KP_tell A_u_272 _) (fun u_320 A_u_320 => ?_)
            refine g_if_ge 472 F dL_law_323 (by omega) rfl (fun c_5 => ?_) (fun c_5 => ?_)
            · skip
              have hm8 := 0
              refine g_iload F dL_law_472 6 rfl ?_
              refine g_if_ne 521 F dL_law_474 (by decide) rfl (fun c_6 => ?_) (fun c_6 => ?_)
              · skip
                refine g_aload_n F dL_law_521 rfl 8 rfl ?_
                refine g_iload F dL_law_522 23 rfl ?_
                refine g_iconst F dL_law_524 (0) (by decide) ?_
                refine g_callV 2 F (As := [.int (J (i)), .int (J (0))]) (st := []) (c_X7_heats l D ad u_320 y (i) (0) (by omega) (by omega) (KP_I A_u_320)) (gR_7) rfl mk_L_113 ki_X7_heats kc_X7_heats (by decide +kernel) rfl (by decide) dL_law_525 rfl (Nat.le_of_ble_eq_true rfl) (pI_k ?_)
                refine g_topi (b := htU z (i) (0)) ((he_k A_u_320 (by omega) (by omega) (by omega)).1) ?_
                refine g_nm (P := fun u_525 => KP z r u_525) ((he_k A_u_320 (by omega) (by omega) (by omega)).2) (fun u_525 A_u_525 => ?_)
                refine g_istore F [(25, .int (J (htU z (i) (0)))), (17, .int (J ((fo) + (0)))), (24, .int (J (wr))), (23, .int (J (-4))), (22, .int (J (z 2 (i) 0))), (21, .int (J (vU z i (z 15 0 0)))), (20, .int (J (bU z (i) (z 15 0 0)))), (19, .int (J (1))), (0, .ref b), (1, .ref (ad 7 (0))), (2, .ref (ad 41 (0))), (3, .ref (ad 42 (0))), (4, .ref (ad 43 (0))), (5, .int (J (z 10 0 0))), (6, .long (Lg (bg))), (8, .int (J (t))), (9, .int (J (xx))), (10, .int (J (z 16 0 0))), (11, .int (J (z 15 0 0))), (12, .int (J (trU z))), (13, .int (J (tcU z))), (14, .int (J (twU z))), (15, .int (J (cmB z))), (16, .int (J (clB z))), (18, .int (J (i)))] dL_law_528 (by decide) rfl ?_
                refine g_aload_n F dL_law_530 rfl 9 rfl ?_
                refine g_iload F dL_law_531 24 rfl ?_
                refine g_iconst F dL_law_533 (1) (by decide) ?_
                refine g_callV 2 F (As := [.int (J (i)), .int (J (1))]) (st := []) (c_X7_heats l D ad u_525 y (i) (1) (by omega) (by omega) (KP_I A_u_525)) (gR_7) rfl mk_L_113 ki_X7_heats kc_X7_heats (by decide +kernel) rfl (by decide) dL_law_534 rfl (Nat.le_of_ble_eq_true rfl) (pI_k ?_)
                refine g_topi (b := htU z (i) (1)) ((he_k A_u_525 (by omega) (by omega) (by omega)).1) ?_
                refine g_nm (P := fun u_534 => KP z r u_534) ((he_k A_u_525 (by omega) (by omega) (by omega)).2) (fun u_534 A_u_534 => ?_)
                refine g_istore F [(26, .int (J (htU z (i) (1)))), (25, .int (J (htU z (i) (0)))), (17, .int (J ((fo) + (0)))), (24, .int (J (wr))), (23, .int (J (-4))), (22, .int (J (z 2 (i) 0))), (21, .int (J (vU z i (z 15 0 0)))), (20, .int (J (bU z (i) (z 15 0 0)))), (19, .int (J (1))), (0, .ref b), (1, .ref (ad 7 (0))), (2, .ref (ad 41 (0))), (3, .ref (ad 42 (0))), (4, .ref (ad 43 (0))), (5, .int (J (z 10 0 0))), (6, .long (Lg (bg))), (8, .int (J (t))), (9, .int (J (xx))), (10, .int (J (z 16 0 0))), (11, .int (J (z 15 0 0))), (12, .int (J (trU z))), (13, .int (J (tcU z))), (14, .int (J (twU z))), (15, .int (J (cmB z))), (16, .int (J (clB z))), (18, .int (J (i)))] dL_law_537 (by decide) rfl ?_
                refine g_aload_n F dL_law_539 rfl 10 rfl ?_
                refine g_iload F dL_law_540 25 rfl ?_
                refine g_iconst F dL_law_542 (2) (by decide) ?_
                refine g_callV 2 F (As := [.int (J (i)), .int (J (2))]) (st := []) (c_X7_heats l D ad u_534 y (i) (2) (by omega) (by omega) (KP_I A_u_534)) (gR_7) rfl mk_L_113 ki_X7_heats kc_X7_heats (by decide +kernel) rfl (by decide) dL_law_543 rfl (Nat.le_of_ble_eq_true rfl) (pI_k ?_)
                refine g_topi (b := htU z (i) (2)) ((he_k A_u_534 (by omega) (by omega) (by omega)).1) ?_
                refine g_nm (P := fun u_543 => KP z r u_543) ((he_k A_u_534 (by omega) (by omega) (by omega)).2) (fun u_543 A_u_543 => ?_)
                refine g_istore F [(27, .int (J (htU z (i) (2)))), (26, .int (J (htU z (i) (1)))), (25, .int (J (htU z (i) (0)))), (17, .int (J ((fo) + (0)))), (24, .int (J (wr))), (23, .int (J (-4))), (22, .int (J (z 2 (i) 0))), (21, .int (J (vU z i (z 15 0 0)))), (20, .int (J (bU z (i) (z 15 0 0)))), (19, .int (J (1))), (0, .ref b), (1, .ref (ad 7 (0))), (2, .ref (ad 41 (0))), (3, .ref (ad 42 (0))), (4, .ref (ad 43 (0))), (5, .int (J (z 10 0 0))), (6, .long (Lg (bg))), (8, .int (J (t))), (9, .int (J (xx))), (10, .int (J (z 16 0 0))), (11, .int (J (z 15 0 0))), (12, .int (J (trU z))), (13, .int (J (tcU z))), (14, .int (J (twU z))), (15, .int (J (cmB z))), (16, .int (J (clB z))), (18, .int (J (i)))] dL_law_546 (by decide) rfl ?_
                refine g_iload F dL_law_548 2 rfl ?_
                refine g_iload F dL_law_550 1 rfl ?_
                refine g_iand F dL_law_552 (0) (ht_2 (by decide)) ?_
                refine g_if_ne 617 F dL_law_553 (by decide) rfl (fun c_7 => ?_) (fun c_7 => ?_)
                · skip
                  exact absurd c_7 (by decide)
                · skip
                  refine g_iload F dL_law_556 2 rfl ?_
                  refine g_iload F dL_law_558 0 rfl ?_
                  refine g_iand F dL_law_560 (0) (ht_2 (by decide)) ?_
                  refine g_if_ne 617 F dL_law_561 (by decide) rfl (fun c_8 => ?_) (fun c_8 => ?_)
                  · skip
                    exact absurd c_8 (by decide)
                  · skip
                    refine g_iload F dL_law_564 1 rfl ?_
                    refine g_iload F dL_law_566 0 rfl ?_
                    refine g_iand F dL_law_568 (0) (ht_2 (by decide)) ?_
                    refine g_if_ne 617 F dL_law_569 (by decide) rfl (fun c_9 => ?_) (fun c_9 => ?_)
                    · skip
                      exact absurd c_9 (by decide)
                    · skip
                      refine g_iload F dL_law_572 2 rfl ?_
                      refine g_iload F dL_law_574 1 rfl ?_
                      refine g_ior F dL_law_576 (bitsZ (fun h => vU z i h = 0 ∨ vU z i h = 1) 31) (ht_or) ?_
                      refine g_iload F dL_law_577 0 rfl ?_
                      refine g_ior F dL_law_579 (2147483647) (ht_all) ?_
                      refine g_ldc F ck_L_8 dL_law_580 (2147483647) (by decide) ?_
                      refine g_icmp_ne 617 F dL_law_582 (by decide) (by decide) rfl (fun c_10 => ?_) (fun c_10 => ?_)
                      · skip
                        exact absurd c_10 (by decide)
                      · skip
                        have L608 :  gW Θ l D ad 37 608 [(27, .int (J (htU z (i) (2)))), (26, .int (J (htU z (i) (1)))), (25, .int (J (htU z (i) (0)))), (17, .int (J ((fo) + (0)))), (24, .int (J (wr))), (23, .int (J (-4))), (22, .int (J (z 2 (i) 0))), (21, .int (J (vU z i (z 15 0 0)))), (20, .int (J (bU z (i) (z 15 0 0)))), (19, .int (J (1))), (0, .ref b), (1, .ref (ad 7 (0))), (2, .ref (ad 41 (0))), (3, .ref (ad 42 (0))), (4, .ref (ad 43 (0))), (5, .int (J (z 10 0 0))), (6, .long (Lg (bg))), (8, .int (J (t))), (9, .int (J (xx))), (10, .int (J (z 16 0 0))), (11, .int (J (z 15 0 0))), (12, .int (J (trU z))), (13, .int (J (tcU z))), (14, .int (J (twU z))), (15, .int (J (cmB z))), (16, .int (J (clB z))), (18, .int (J (i)))] [.int (J (htU z i (vU z i (z 15 0 0))))] u_543 y := by
                          refine g_iload F dL_law_608 20 rfl ?_
                          refine g_ishr F dL_law_610 (htU z i (vU z i (z 15 0 0)) / p2 (z 15 0 0)) (J_shr (ht_r z i _) ⟨by omega, by omega⟩) ?_
                          refine g_iconst F dL_law_611 (1) (by decide) ?_
                          refine g_iand F dL_law_612 (1) (by rw [J_bt (ht_r z i _) ⟨by omega, by omega⟩, ht_at h15]) ?_
                          refine g_iconst F dL_law_613 (1) (by decide) ?_
                          refine g_icmp_eq 619 F dL_law_614 (by decide) (by decide) rfl (fun c_11 => ?_) (fun c_11 => ?_)
                          · skip
                            refine g_aload_n F dL_law_619 rfl 11 rfl ?_
                            refine g_iconst F dL_law_620 (2) (by decide) ?_
                            refine g_callV 1 F (As := [.int (J (2))]) (st := []) (c_X7_heat l D ad u_543 y (2) (by omega) (KP_I A_u_543)) (gR_7) rfl mk_L_80 ki_X7_heat kc_X7_heat (by decide +kernel) rfl (by decide) dL_law_621 rfl (Nat.le_of_ble_eq_true rfl) (pI_k ?_)
                            refine g_topi (b := kH (z 15 0 0 + 2)) ((hea_kp A_u_543 (by omega) hn (by decide) (by decide)).1) ?_
                            refine g_nm (P := fun u_621 => HK z r (kH (z 15 0 0 + 2)) u_621) ((hea_kp A_u_543 (by omega) hn (by decide) (by decide)).2) (fun u_621 ⟨g1, g17, g20, g16, g15⟩ => ?_)
                            have B_u_621 := KP_rf g1.1
                            have g10 := EXT_10 g1
                            have rk : z 15 0 0 ≤ kH (z 15 0 0 + 2) ∧ kH (z 15 0 0 + 2) ≤ 30 := by unfold kH; omega
                            have b0 := bU_0 z i (z 15 0 0)
                            have b1 : bU z i (z 15 0 0) ≤ bU u_621 i (u_621 15 0 0) := by rw [bU_cS g1.2.1 hi.1 hi.2, g15]; exact bU_m hz.1 rk.1
                            have b2 := bU_r g1.1.1.1 (g1.1.1.2.2.2 i hi.1 (by omega)) (h := u_621 15 0 0) (by omega)
                            refine g_iload F dL_law_624 20 rfl ?_
                            refine g_icmp_lt 656 F dL_law_626 (by omega) (by omega) rfl (fun c_12 => ?_) (fun c_12 => ?_)
                            · skip
                              exfalso; omega
                            · skip
                              refine g_aload_n F dL_law_629 rfl 11 rfl ?_
                              refine g_iload F dL_law_630 26 rfl ?_
                              refine g_iconst F dL_law_632 (4) (by decide) ?_
                              refine g_callS 3 F (As := [.ref (ad 7 (0)), .int (J (i)), .int (J (4))]) (st := []) (c_L_tell l D ad u_621 y (i) (4) (KP_I B_u_621) (⟨by omega, by rw [KP_10 B_u_621]; omega⟩) (by omega)) rfl mk_L_106 ki_L_tell kc_L_tell (by decide +kernel) rfl (by decide) dL_law_633 rfl (Nat.le_of_ble_eq_true rfl) (pI_k ?_)
                              refine g_topi (b := bU u_621 (i) (u_621 15 0 0)) (td4 B_u_621 (by omega) (by omega)) ?_
                              refine g_nm (P := fun u_633 => KP u_621 u_621 u_633) (KP_tell B_u_621 _) (fun u_633 A_u_633 => ?_)
                              refine g_iload F dL_law_636 8 rfl ?_
                              refine g_icmp_lt 656 F dL_law_638 (by omega) (by omega) rfl (fun c_13 => ?_) (fun c_13 => ?_)
                              · skip
                                exfalso; omega
                              · skip
                                refine g_aload_n F dL_law_641 rfl 11 rfl ?_
                                refine g_iload F dL_law_642 19 rfl ?_
                                refine g_callV 1 F (As := [.int (J (z 16 0 0))]) (st := []) (c_X7_undo l D ad u_633 y (z 16 0 0) (by omega) (KP_I A_u_633)) (gR_7) rfl mk_L_110 ki_X7_undo kc_X7_undo (by decide +kernel) rfl (by decide) dL_law_644 rfl (Nat.le_of_ble_eq_true rfl) (pI_k ?_)
                                refine g_topi (b := 1) ((undo_k (m := 1) hz (EXT_tr g1 A_u_633.1.1) (A_u_633.1.2.2.trans g16) (A_u_633.2.1.trans g17) (A_u_633.2.2.trans g20)).1) ?_
                                refine g_nm (P := fun u_644 => KP z r u_644) ((undo_k (m := 1) hz (EXT_tr g1 A_u_633.1.1) (A_u_633.1.2.2.trans g16) (A_u_633.2.1.trans g17) (A_u_633.2.2.trans g20)).2) (fun u_644 A_u_644 => ?_)
                                refine g_iconst F dL_law_647 (1) (by decide) ?_
                                refine g_icmp_ne 656 F dL_law_648 (by decide) (by decide) rfl (fun c_14 => ?_) (fun c_14 => ?_)
                                · skip
                                  exact absurd c_14 (by decide)
                                · skip
                                  refine g_iload F dL_law_651 8 rfl ?_
                                  refine g_if_ge 658 F dL_law_653 (by omega) rfl (fun c_15 => ?_) (fun c_15 => ?_)
                                  · skip
                                    refine g_sub [10, 11, 12, 13, 14, 15, 16, 17, 18, 19, 20, 21, 22, 23, 24, 25, 3, 26] (lv' := [(0, .ref b), (1, .ref (ad 7 (0))), (2, .ref (ad 41 (0))), (3, .ref (ad 42 (0))), (4, .ref (ad 43 (0))), (5, .int (J (z 10 0 0))), (6, .long (Lg (bg))), (8, .int (J (t))), (9, .int (J (xx))), (10, .int (J (z 16 0 0))), (11, .int (J (z 15 0 0))), (12, .int (J (trU z))), (13, .int (J (tcU z))), (14, .int (J (twU z))), (15, .int (J (cmB z))), (16, .int (J (clB z))), (17, .int (J ((fo) + (0)))), (18, .int (J (i)))]) rfl ?_
                                    exact kk _ (KP_re A_u_644)
                                  · skip
                                    exfalso; omega
                          · skip
                            exact absurd c_11 (by decide)
                        refine g_iload F dL_law_585 7 rfl ?_
                        refine g_if_ne 595 F dL_law_587 (by omega) rfl (fun c_16 => ?_) (fun c_16 => ?_)
                        · skip
                          refine g_iload F dL_law_595 7 rfl ?_
                          refine g_iconst F dL_law_597 (1) (by decide) ?_
                          refine g_icmp_ne 606 F dL_law_598 (by omega) (by decide) rfl (fun c_17 => ?_) (fun c_17 => ?_)
                          · skip
                            refine g_iload F dL_law_606 0 rfl ?_
                            refine g_topi (b := htU z i (vU z i (z 15 0 0))) (by rw [show vU z i (z 15 0 0) = 2 by omega]) ?_
                            exact L608  
                          · skip
                            have hc1 : vU z i (z 15 0 0) = 1 := by omega
                            refine g_iload F dL_law_601 1 rfl ?_
                            refine g_topi (b := htU z i (vU z i (z 15 0 0))) (by rw [hc1]) ?_
                            refine g_goto F 608 dL_law_603 rfl ?_
                            exact L608  
                        · skip
                          have hc0 : vU z i (z 15 0 0) = 0 := by omega
                          refine g_iload F dL_law_590 2 rfl ?_
                          refine g_topi (b := htU z i (vU z i (z 15 0 0))) (by rw [hc0]) ?_
                          refine g_goto F 608 dL_law_592 rfl ?_
                          exact L608  
              · skip
                exact absurd c_6 (by decide)
            · skip
              refine g_goto F 470 dL_law_326 rfl ?_
              exfalso; omega
      · skip
        exact absurd c_2 (by decide)
    refine g_aload_n F dL_law_236 rfl 3 rfl ?_
    refine g_iload F dL_law_237 19 rfl ?_
    refine g_iconst F dL_law_239 (5) (by decide) ?_
    refine g_callS 3 F (As := [.ref (ad 7 (0)), .int (J (i)), .int (J (5))]) (st := []) (c_L_tell l D ad u_231 y (i) (5) (KP_I A_u_231) (⟨by omega, by rw [KP_10 A_u_231]; omega⟩) (by omega)) rfl mk_L_106 ki_L_tell kc_L_tell (by decide +kernel) rfl (by decide) dL_law_240 rfl (Nat.le_of_ble_eq_true rfl) (pI_k ?_)
    refine g_topi (b := if cU z (i) (z 15 0 0) then 1 else 0) (td5 A_u_231 (by omega) (by omega)) ?_
    refine g_nm (P := fun u_240 => KP z r u_240) (KP_tell A_u_231 _) (fun u_240 A_u_240 => ?_)
    refine g_ifb_ne 250 F dL_law_243 rfl (fun c_18 => ?_) (fun c_18 => ?_)
    · skip
      have hcc := c_18
      refine g_aload_n F dL_law_250 rfl 3 rfl ?_
      refine g_iload F dL_law_251 19 rfl ?_
      refine g_bipush F dL_law_253 (6) (by decide) ?_
      refine g_callS 3 F (As := [.ref (ad 7 (0)), .int (J (i)), .int (J (6))]) (st := []) (c_L_tell l D ad u_240 y (i) (6) (KP_I A_u_240) (⟨by omega, by rw [KP_10 A_u_240]; omega⟩) (by omega)) rfl mk_L_106 ki_L_tell kc_L_tell (by decide +kernel) rfl (by decide) dL_law_255 rfl (Nat.le_of_ble_eq_true rfl) (pI_k ?_)
      refine g_topi (b := vU z i (z 15 0 0)) (td6v A_u_240 (by omega) (by omega) hcc) ?_
      refine g_nm (P := fun u_255 => KP z r u_255) (KP_tell A_u_240 _) (fun u_255 A_u_255 => ?_)
      exact L258 (u_255) (A_u_255)
    · skip
      have hcc := c_18
      refine g_iconst F dL_law_246 (2) (by decide) ?_
      refine g_topi (b := vU z i (z 15 0 0)) (vU_c hcc) ?_
      refine g_goto F 258 dL_law_247 rfl ?_
      exact L258 (u_240) (A_u_240)
