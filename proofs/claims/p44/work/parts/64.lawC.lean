set_option maxHeartbeats 1000000 in
set_option maxRecDepth 20000 in
theorem law_B {Θ : gT} {l : Launch} {D : gD} {ad : gA} {b : Nat} {z : gX} {bg t xx : Int} {u : gX} {y : gY} (F : gF Θ l D ad cL_law RL 37 20) (hz : INV z) (hn : 1 ≤ z 10 0 0) (h16 : z 16 0 0 ≤ 9) (A : KP z u u) (kk : ∀ (u : gX) (fo : Int), KP z u u → fo = foU z (z 15 0 0) → gW Θ l D ad 37 664 [(0, .ref b), (1, .ref (ad 7 (0))), (2, .ref (ad 41 (0))), (3, .ref (ad 42 (0))), (4, .ref (ad 43 (0))), (5, .int (J (z 10 0 0))), (6, .long (Lg (bg))), (8, .int (J (t))), (9, .int (J (xx))), (10, .int (J (z 16 0 0))), (11, .int (J (z 15 0 0))), (12, .int (J (trU z))), (13, .int (J (tcU z))), (14, .int (J (twU z))), (15, .int (J (cmB z))), (16, .int (J (clB z))), (17, .int (J (fo)))] [] u y) : gW Θ l D ad 37 196 [(0, .ref b), (1, .ref (ad 7 (0))), (2, .ref (ad 41 (0))), (3, .ref (ad 42 (0))), (4, .ref (ad 43 (0))), (5, .int (J (z 10 0 0))), (6, .long (Lg (bg))), (8, .int (J (t))), (9, .int (J (xx))), (10, .int (J (z 16 0 0))), (11, .int (J (z 15 0 0))), (12, .int (J (trU z))), (13, .int (J (tcU z))), (14, .int (J (twU z))), (15, .int (J (cmB z))), (16, .int (J (clB z)))] [] u y := by
  have h10 := hz.1.2.1
  have h15 := hz.1.2.2.1
  have h160 := hz.2.2.1.1.1
  have htr := trU_r hz.1
  have hcm := cmB_r hz.1
  have hcl := clB_r hz.1
  have htc := tc_r hz.1
  have htw := tw_r hz.1
  refine g_iconst F dL_law_196 (0) (by decide) ?_
  refine g_istore F [(17, .int (J (0))), (0, .ref b), (1, .ref (ad 7 (0))), (2, .ref (ad 41 (0))), (3, .ref (ad 42 (0))), (4, .ref (ad 43 (0))), (5, .int (J (z 10 0 0))), (6, .long (Lg (bg))), (8, .int (J (t))), (9, .int (J (xx))), (10, .int (J (z 16 0 0))), (11, .int (J (z 15 0 0))), (12, .int (J (trU z))), (13, .int (J (tcU z))), (14, .int (J (twU z))), (15, .int (J (cmB z))), (16, .int (J (clB z)))] dL_law_197 (by decide) rfl ?_
  refine g_iconst F dL_law_199 (0) (by decide) ?_
  refine g_istore F [(18, .int (J (0))), (17, .int (J (0))), (0, .ref b), (1, .ref (ad 7 (0))), (2, .ref (ad 41 (0))), (3, .ref (ad 42 (0))), (4, .ref (ad 43 (0))), (5, .int (J (z 10 0 0))), (6, .long (Lg (bg))), (8, .int (J (t))), (9, .int (J (xx))), (10, .int (J (z 16 0 0))), (11, .int (J (z 15 0 0))), (12, .int (J (trU z))), (13, .int (J (tcU z))), (14, .int (J (twU z))), (15, .int (J (cmB z))), (16, .int (J (clB z)))] dL_law_200 (by decide) rfl ?_
  have L202 : ∀ (N : Nat) (u : gX) (fo : Int) (i : Int), 0 ≤ i ∧ i ≤ z 10 0 0 → KP z u u → fo = sumZ (fun q => if z 6 q 0 = -9 ∧ vU z q (z 15 0 0) = 0 then 1 else 0) i → (z 10 0 0 - i).toNat < N → gW Θ l D ad 37 202 [(0, .ref b), (1, .ref (ad 7 (0))), (2, .ref (ad 41 (0))), (3, .ref (ad 42 (0))), (4, .ref (ad 43 (0))), (5, .int (J (z 10 0 0))), (6, .long (Lg (bg))), (8, .int (J (t))), (9, .int (J (xx))), (10, .int (J (z 16 0 0))), (11, .int (J (z 15 0 0))), (12, .int (J (trU z))), (13, .int (J (tcU z))), (14, .int (J (twU z))), (15, .int (J (cmB z))), (16, .int (J (clB z))), (17, .int (J (fo))), (18, .int (J (i)))] [] u y := by
    intro N
    induction N with
    | zero => intro u fo i hi A1 hfo hFu; omega
    | succ N ih202 =>
      intro u fo i hi A1 hfo hFu
      refine g_iload F dL_law_202 17 rfl ?_
      refine g_iload F dL_law_204 5 rfl ?_
      refine g_icmp_ge 664 F dL_law_206 (by omega) (by omega) rfl (fun c_1 => ?_) (fun c_1 => ?_)
      · skip
        refine g_sub [0, 1, 2, 3, 4, 5, 6, 7, 8, 9, 10, 11, 12, 13, 14, 15, 16] (lv' := [(0, .ref b), (1, .ref (ad 7 (0))), (2, .ref (ad 41 (0))), (3, .ref (ad 42 (0))), (4, .ref (ad 43 (0))), (5, .int (J (z 10 0 0))), (6, .long (Lg (bg))), (8, .int (J (t))), (9, .int (J (xx))), (10, .int (J (z 16 0 0))), (11, .int (J (z 15 0 0))), (12, .int (J (trU z))), (13, .int (J (tcU z))), (14, .int (J (twU z))), (15, .int (J (cmB z))), (16, .int (J (clB z))), (17, .int (J (fo)))]) rfl ?_
        exact kk _ _ A1 (by rw [hfo, show i = z 10 0 0 by omega])
      · skip
        refine g_sub [0, 1, 2, 3, 4, 5, 6, 7, 8, 9, 10, 11, 12, 13, 14, 15, 16, 17] (lv' := [(0, .ref b), (1, .ref (ad 7 (0))), (2, .ref (ad 41 (0))), (3, .ref (ad 42 (0))), (4, .ref (ad 43 (0))), (5, .int (J (z 10 0 0))), (6, .long (Lg (bg))), (8, .int (J (t))), (9, .int (J (xx))), (10, .int (J (z 16 0 0))), (11, .int (J (z 15 0 0))), (12, .int (J (trU z))), (13, .int (J (tcU z))), (14, .int (J (twU z))), (15, .int (J (cmB z))), (16, .int (J (clB z))), (17, .int (J (fo))), (18, .int (J (i)))]) rfl ?_
        have hfr : 0 ≤ fo ∧ fo ≤ 6 := by have := cntZ_r (P := fun q => z 6 q 0 = -9 ∧ vU z q (z 15 0 0) = 0) (n := i) hi.1; rw [← hfo] at this; omega
        rcases Decidable.em (z 6 i 0 = -9) with ht | ht
        · skip
          refine law_B1 F hz hn h16 A1 ⟨by omega, by omega⟩ hfr ht (fun v Av => ?_)
          have nF : (fo) + (if vU z i (z 15 0 0) = 0 then 1 else 0) = sumZ (fun q => if z 6 q 0 = -9 ∧ vU z q (z 15 0 0) = 0 then 1 else 0) (i + 1) := by
            rw [sumZ_s _ (by omega), ← hfo]
            show (fo) + (if vU z i (z 15 0 0) = 0 then 1 else 0) = fo + (if z 6 i 0 = -9 ∧ vU z i (z 15 0 0) = 0 then 1 else 0)
            (repeat' split) <;> omega
          refine g_iinc F [(18, .int (J (i + 1))), (0, .ref b), (1, .ref (ad 7 (0))), (2, .ref (ad 41 (0))), (3, .ref (ad 42 (0))), (4, .ref (ad 43 (0))), (5, .int (J (z 10 0 0))), (6, .long (Lg (bg))), (8, .int (J (t))), (9, .int (J (xx))), (10, .int (J (z 16 0 0))), (11, .int (J (z 15 0 0))), (12, .int (J (trU z))), (13, .int (J (tcU z))), (14, .int (J (twU z))), (15, .int (J (cmB z))), (16, .int (J (clB z))), (17, .int (J ((fo) + (if vU z i (z 15 0 0) = 0 then 1 else 0))))] 17 rfl dL_law_658 (by decide) rfl ?_
          refine g_goto F 202 dL_law_661 rfl ?_
          refine g_sub [1, 2, 3, 4, 5, 6, 7, 8, 9, 10, 11, 12, 13, 14, 15, 16, 17, 0] (lv' := [(0, .ref b), (1, .ref (ad 7 (0))), (2, .ref (ad 41 (0))), (3, .ref (ad 42 (0))), (4, .ref (ad 43 (0))), (5, .int (J (z 10 0 0))), (6, .long (Lg (bg))), (8, .int (J (t))), (9, .int (J (xx))), (10, .int (J (z 16 0 0))), (11, .int (J (z 15 0 0))), (12, .int (J (trU z))), (13, .int (J (tcU z))), (14, .int (J (twU z))), (15, .int (J (cmB z))), (16, .int (J (clB z))), (17, .int (J ((fo) + (if vU z i (z 15 0 0) = 0 then 1 else 0)))), (18, .int (J (i + 1)))]) rfl ?_
          exact ih202 (v) ((fo) + (if vU z i (z 15 0 0) = 0 then 1 else 0)) (i + 1) (by omega) (Av) (nF) (by omega)
        · skip
          refine law_B2 F hz hn h16 A1 ⟨by omega, by omega⟩ hfr ht (fun v Av => ?_)
          have nF : (fo) + (0) = sumZ (fun q => if z 6 q 0 = -9 ∧ vU z q (z 15 0 0) = 0 then 1 else 0) (i + 1) := by
            rw [sumZ_s _ (by omega), ← hfo]
            show (fo) + (0) = fo + (if z 6 i 0 = -9 ∧ vU z i (z 15 0 0) = 0 then 1 else 0)
            (repeat' split) <;> omega
          refine g_iinc F [(18, .int (J (i + 1))), (0, .ref b), (1, .ref (ad 7 (0))), (2, .ref (ad 41 (0))), (3, .ref (ad 42 (0))), (4, .ref (ad 43 (0))), (5, .int (J (z 10 0 0))), (6, .long (Lg (bg))), (8, .int (J (t))), (9, .int (J (xx))), (10, .int (J (z 16 0 0))), (11, .int (J (z 15 0 0))), (12, .int (J (trU z))), (13, .int (J (tcU z))), (14, .int (J (twU z))), (15, .int (J (cmB z))), (16, .int (J (clB z))), (17, .int (J ((fo) + (0))))] 17 rfl dL_law_658 (by decide) rfl ?_
          refine g_goto F 202 dL_law_661 rfl ?_
          refine g_sub [1, 2, 3, 4, 5, 6, 7, 8, 9, 10, 11, 12, 13, 14, 15, 16, 17, 0] (lv' := [(0, .ref b), (1, .ref (ad 7 (0))), (2, .ref (ad 41 (0))), (3, .ref (ad 42 (0))), (4, .ref (ad 43 (0))), (5, .int (J (z 10 0 0))), (6, .long (Lg (bg))), (8, .int (J (t))), (9, .int (J (xx))), (10, .int (J (z 16 0 0))), (11, .int (J (z 15 0 0))), (12, .int (J (trU z))), (13, .int (J (tcU z))), (14, .int (J (twU z))), (15, .int (J (cmB z))), (16, .int (J (clB z))), (17, .int (J ((fo) + (0)))), (18, .int (J (i + 1)))]) rfl ?_
          exact ih202 (v) ((fo) + (0)) (i + 1) (by omega) (Av) (nF) (by omega)
        
  refine g_sub [2, 3, 4, 5, 6, 7, 8, 9, 10, 11, 12, 13, 14, 15, 16, 17, 1, 0] (lv' := [(0, .ref b), (1, .ref (ad 7 (0))), (2, .ref (ad 41 (0))), (3, .ref (ad 42 (0))), (4, .ref (ad 43 (0))), (5, .int (J (z 10 0 0))), (6, .long (Lg (bg))), (8, .int (J (t))), (9, .int (J (xx))), (10, .int (J (z 16 0 0))), (11, .int (J (z 15 0 0))), (12, .int (J (trU z))), (13, .int (J (tcU z))), (14, .int (J (twU z))), (15, .int (J (cmB z))), (16, .int (J (clB z))), (17, .int (J (0))), (18, .int (J (0)))]) rfl ?_
  exact L202 _ (u) (0) (0) (by omega) (A) (rfl) (Nat.lt_succ_self _)

set_option maxHeartbeats 1000000 in
set_option maxRecDepth 20000 in
theorem law_C {Θ : gT} {l : Launch} {D : gD} {ad : gA} {b : Nat} {z : gX} {bg t xx fo : Int} {u : gX} {y : gY} (F : gF Θ l D ad cL_law RL 37 20) (hz : INV z) (hn : 1 ≤ z 10 0 0) (h16 : z 16 0 0 ≤ 9) (A : KP z u u) (kk : ∀ v : gX, KP z v v → gW Θ l D ad 37 797 [(0, .ref b), (1, .ref (ad 7 (0))), (2, .ref (ad 41 (0))), (3, .ref (ad 42 (0))), (4, .ref (ad 43 (0))), (5, .int (J (z 10 0 0))), (6, .long (Lg (bg))), (8, .int (J (t))), (9, .int (J (xx))), (10, .int (J (z 16 0 0))), (11, .int (J (z 15 0 0))), (12, .int (J (trU z))), (13, .int (J (tcU z))), (14, .int (J (twU z))), (15, .int (J (cmB z))), (16, .int (J (clB z))), (17, .int (J (fo)))] [] v y) : gW Θ l D ad 37 664 [(0, .ref b), (1, .ref (ad 7 (0))), (2, .ref (ad 41 (0))), (3, .ref (ad 42 (0))), (4, .ref (ad 43 (0))), (5, .int (J (z 10 0 0))), (6, .long (Lg (bg))), (8, .int (J (t))), (9, .int (J (xx))), (10, .int (J (z 16 0 0))), (11, .int (J (z 15 0 0))), (12, .int (J (trU z))), (13, .int (J (tcU z))), (14, .int (J (twU z))), (15, .int (J (cmB z))), (16, .int (J (clB z))), (17, .int (J (fo)))] [] u y := by
  have h10 := hz.1.2.1
  have h15 := hz.1.2.2.1
  have h160 := hz.2.2.1.1.1
  have htr := trU_r hz.1
  have hcm := cmB_r hz.1
  have hcl := clB_r hz.1
  have htc := tc_r hz.1
  have htw := tw_r hz.1
  have bs := bs_at (fun h => awU z h) 30
  have bl := bs_le (fun h => awU z h) 30
  refine g_aload_n F dL_law_664 rfl 1 rfl ?_
  refine g_callV 0 F (As := []) (st := []) (c_X7_best l D ad u y  (KP_I A)) (gR_7) rfl mk_L_116 ki_X7_best kc_X7_best (by decide +kernel) rfl (by decide) dL_law_665 rfl (Nat.le_of_ble_eq_true rfl) (pI_k ?_)
  refine g_topi (b := (bsN (fun h => awU z h) 30).1) ((be_k A hn).1) ?_
  refine g_nm (P := fun u_665 => KP z u u_665 ∧ u_665 19 0 0 = (bsN (fun h => awU z h) 30).2) ((be_k A hn).2) (fun u_665 ⟨A_u_665, T_u_665⟩ => ?_)
  refine g_nmi (P := fun bh => bh = (bsN (fun h => awU z h) 30).1) (rfl) (fun bh h_bh => ?_)
  refine g_istore F [(18, .int (J (bh))), (0, .ref b), (1, .ref (ad 7 (0))), (2, .ref (ad 41 (0))), (3, .ref (ad 42 (0))), (4, .ref (ad 43 (0))), (5, .int (J (z 10 0 0))), (6, .long (Lg (bg))), (8, .int (J (t))), (9, .int (J (xx))), (10, .int (J (z 16 0 0))), (11, .int (J (z 15 0 0))), (12, .int (J (trU z))), (13, .int (J (tcU z))), (14, .int (J (twU z))), (15, .int (J (cmB z))), (16, .int (J (clB z))), (17, .int (J (fo)))] dL_law_668 (by decide) rfl ?_
  refine g_aload_n F dL_law_670 rfl 2 rfl ?_
  refine g_callV 0 F (As := []) (st := []) (c_X7_asked l D ad u_665 y  ) (gR_7) rfl mk_L_73 ki_X7_asked kc_X7_asked (by decide +kernel) rfl (by decide) dL_law_671 rfl (Nat.le_of_ble_eq_true rfl) (pI_k ?_)
  refine g_topi (b := (bsN (fun h => awU z h) 30).2) (T_u_665) ?_
  refine g_nmi (P := fun few => few = (bsN (fun h => awU z h) 30).2) (rfl) (fun few h_few => ?_)
  rw [← h_bh, ← h_few] at bs
  obtain ⟨hb1, hb2, hb3⟩ := bs
  have hb2 : few = awU z bh := hb2
  have hb3 : ∀ q : Int, 0 ≤ q → q < bh → few < awU z q := hb3
  have hb1 : 0 ≤ bh ∧ bh ≤ 30 := hb1
  have hb4 : ∀ q : Int, 0 ≤ q → q ≤ 30 → few ≤ awU z q := fun q a b => by rw [h_few]; exact bl q a b
  clear bl
  have gb := gw_le hz.1 bh
  refine g_istore F [(19, .int (J (few))), (18, .int (J (bh))), (0, .ref b), (1, .ref (ad 7 (0))), (2, .ref (ad 41 (0))), (3, .ref (ad 42 (0))), (4, .ref (ad 43 (0))), (5, .int (J (z 10 0 0))), (6, .long (Lg (bg))), (8, .int (J (t))), (9, .int (J (xx))), (10, .int (J (z 16 0 0))), (11, .int (J (z 15 0 0))), (12, .int (J (trU z))), (13, .int (J (tcU z))), (14, .int (J (twU z))), (15, .int (J (cmB z))), (16, .int (J (clB z))), (17, .int (J (fo)))] dL_law_674 (by decide) rfl ?_
  refine g_iload F dL_law_676 1 rfl ?_
  refine g_if_lt 708 F dL_law_678 (by omega) rfl (fun c_1 => ?_) (fun c_1 => ?_)
  · skip
    exfalso; omega
  · skip
    refine g_iload F dL_law_681 1 rfl ?_
    refine g_bipush F dL_law_683 (30) (by decide) ?_
    refine g_icmp_gt 708 F dL_law_685 (by omega) (by decide) rfl (fun c_2 => ?_) (fun c_2 => ?_)
    · skip
      exfalso; omega
    · skip
      refine g_aload_n F dL_law_688 rfl 3 rfl ?_
      refine g_iload F dL_law_689 1 rfl ?_
      refine g_callV 1 F (As := [.int (J (bh))]) (st := []) (c_X7_wrong l D ad u_665 y (bh) (by omega) (KP_I A_u_665)) (gR_7) rfl mk_L_119 ki_X7_wrong kc_X7_wrong (by decide +kernel) rfl (by decide) dL_law_691 rfl (Nat.le_of_ble_eq_true rfl) (pI_k ?_)
      refine g_topi (b := awU z (bh)) ((wr_k A_u_665 hn (by omega)).1) ?_
      refine g_nm (P := fun u_691 => KP z u u_691 ∧ u_691 19 0 0 = gwU z (bh)) ((wr_k A_u_665 hn (by omega)).2) (fun u_691 ⟨A_u_691, T_u_691⟩ => ?_)
      refine g_iload F dL_law_694 0 rfl ?_
      refine g_icmp_ne 708 F dL_law_696 (by omega) (by omega) rfl (fun c_3 => ?_) (fun c_3 => ?_)
      · skip
        exfalso; omega
      · skip
        refine g_aload_n F dL_law_699 rfl 3 rfl ?_
        refine g_callV 0 F (As := []) (st := []) (c_X7_asked l D ad u_691 y  ) (gR_7) rfl mk_L_73 ki_X7_asked kc_X7_asked (by decide +kernel) rfl (by decide) dL_law_700 rfl (Nat.le_of_ble_eq_true rfl) (pI_k ?_)
        refine g_topi (b := gwU z (bh)) (T_u_691) ?_
        refine g_iload F dL_law_703 0 rfl ?_
        refine g_icmp_le 710 F dL_law_705 (by omega) (by omega) rfl (fun c_4 => ?_) (fun c_4 => ?_)
        · skip
          refine g_iconst F dL_law_710 (0) (by decide) ?_
          refine g_istore F [(20, .int (J (0))), (19, .int (J (few))), (18, .int (J (bh))), (0, .ref b), (1, .ref (ad 7 (0))), (2, .ref (ad 41 (0))), (3, .ref (ad 42 (0))), (4, .ref (ad 43 (0))), (5, .int (J (z 10 0 0))), (6, .long (Lg (bg))), (8, .int (J (t))), (9, .int (J (xx))), (10, .int (J (z 16 0 0))), (11, .int (J (z 15 0 0))), (12, .int (J (trU z))), (13, .int (J (tcU z))), (14, .int (J (twU z))), (15, .int (J (cmB z))), (16, .int (J (clB z))), (17, .int (J (fo)))] dL_law_711 (by decide) rfl ?_
          have L713 : ∀ (N : Nat) (u3 : gX) (h : Int), 0 ≤ h ∧ h ≤ 31 → KP z u u3 → (31 - h).toNat < N → gW Θ l D ad 37 713 [(0, .ref b), (1, .ref (ad 7 (0))), (2, .ref (ad 41 (0))), (3, .ref (ad 42 (0))), (4, .ref (ad 43 (0))), (5, .int (J (z 10 0 0))), (6, .long (Lg (bg))), (8, .int (J (t))), (9, .int (J (xx))), (10, .int (J (z 16 0 0))), (11, .int (J (z 15 0 0))), (12, .int (J (trU z))), (13, .int (J (tcU z))), (14, .int (J (twU z))), (15, .int (J (cmB z))), (16, .int (J (clB z))), (17, .int (J (fo))), (18, .int (J (bh))), (19, .int (J (few))), (20, .int (J (h)))] [] u3 y := by
            intro N
            induction N with
            | zero => intro u3 h hh A3 hFu; omega
            | succ N ih713 =>
              intro u3 h hh A3 hFu
              refine g_iload F dL_law_713 19 rfl ?_
              refine g_bipush F dL_law_715 (31) (by decide) ?_
              refine g_icmp_ge 797 F dL_law_717 (by omega) (by decide) rfl (fun c_5 => ?_) (fun c_5 => ?_)
              · skip
                refine g_sub [0, 1, 2, 3, 4, 5, 6, 7, 8, 9, 10, 11, 12, 13, 14, 15, 16] (lv' := [(0, .ref b), (1, .ref (ad 7 (0))), (2, .ref (ad 41 (0))), (3, .ref (ad 42 (0))), (4, .ref (ad 43 (0))), (5, .int (J (z 10 0 0))), (6, .long (Lg (bg))), (8, .int (J (t))), (9, .int (J (xx))), (10, .int (J (z 16 0 0))), (11, .int (J (z 15 0 0))), (12, .int (J (trU z))), (13, .int (J (tcU z))), (14, .int (J (twU z))), (15, .int (J (cmB z))), (16, .int (J (clB z))), (17, .int (J (fo)))]) rfl ?_
                exact kk _ (KP_re A3)
              · skip
                have gh := gw_le hz.1 h
                have gl := hb4 h (by omega) (by omega)
                refine g_aload_n F dL_law_720 rfl 1 rfl ?_
                refine g_iload F dL_law_721 19 rfl ?_
                refine g_callV 1 F (As := [.int (J (h))]) (st := []) (c_X7_wrong l D ad u3 y (h) (by omega) (KP_I A3)) (gR_7) rfl mk_L_119 ki_X7_wrong kc_X7_wrong (by decide +kernel) rfl (by decide) dL_law_723 rfl (Nat.le_of_ble_eq_true rfl) (pI_k ?_)
                refine g_topi (b := awU z (h)) ((wr_k A3 hn (by omega)).1) ?_
                refine g_nm (P := fun u_723 => KP z u u_723 ∧ u_723 19 0 0 = gwU z (h)) ((wr_k A3 hn (by omega)).2) (fun u_723 ⟨A_u_723, T_u_723⟩ => ?_)
                refine g_istore F [(21, .int (J (awU z (h)))), (0, .ref b), (1, .ref (ad 7 (0))), (2, .ref (ad 41 (0))), (3, .ref (ad 42 (0))), (4, .ref (ad 43 (0))), (5, .int (J (z 10 0 0))), (6, .long (Lg (bg))), (8, .int (J (t))), (9, .int (J (xx))), (10, .int (J (z 16 0 0))), (11, .int (J (z 15 0 0))), (12, .int (J (trU z))), (13, .int (J (tcU z))), (14, .int (J (twU z))), (15, .int (J (cmB z))), (16, .int (J (clB z))), (17, .int (J (fo))), (18, .int (J (bh))), (19, .int (J (few))), (20, .int (J (h)))] dL_law_726 (by decide) rfl ?_
                refine g_iload F dL_law_728 0 rfl ?_
                refine g_iload F dL_law_730 19 rfl ?_
                refine g_icmp_lt 789 F dL_law_732 (by omega) (by omega) rfl (fun c_6 => ?_) (fun c_6 => ?_)
                · skip
                  exfalso; omega
                · skip
                  refine g_iload F dL_law_735 0 rfl ?_
                  refine g_iload F dL_law_737 19 rfl ?_
                  refine g_icmp_ne 749 F dL_law_739 (by omega) (by omega) rfl (fun c_7 => ?_) (fun c_7 => ?_)
                  · skip
                    refine g_aload_n F dL_law_749 rfl 2 rfl ?_
                    refine g_callV 0 F (As := []) (st := []) (c_X7_asked l D ad u_723 y  ) (gR_7) rfl mk_L_73 ki_X7_asked kc_X7_asked (by decide +kernel) rfl (by decide) dL_law_750 rfl (Nat.le_of_ble_eq_true rfl) (pI_k ?_)
                    refine g_topi (b := gwU z (h)) (T_u_723) ?_
                    refine g_iload F dL_law_753 0 rfl ?_
                    refine g_icmp_gt 789 F dL_law_755 (by omega) (by omega) rfl (fun c_8 => ?_) (fun c_8 => ?_)
                    · skip
                      exfalso; omega
                    · skip
                      refine g_aload_n F dL_law_758 rfl 2 rfl ?_
                      refine g_iload F dL_law_759 20 rfl ?_
                      refine g_callV 1 F (As := [.int (J (h))]) (st := []) (c_X7_tells l D ad u_723 y (h) (by omega) (KP_I A_u_723)) (gR_7) rfl mk_L_121 ki_X7_tells kc_X7_tells (by decide +kernel) rfl (by decide) dL_law_761 rfl (Nat.le_of_ble_eq_true rfl) (pI_k ?_)
                      refine g_topi (b := 1) ((te_k A_u_723 hn (by omega)).1) ?_
                      refine g_nm (P := fun u_761 => KP z u u_761 ∧ (0 ≤ u_761 8 0 0 ∧ u_761 8 0 0 ≤ u_761 9 0 0) ∧ u_761 9 0 0 ≤ 4000000) ((te_k A_u_723 hn (by omega)).2) (fun u_761 ⟨A_u_761, T_u_761⟩ => ?_)
                      refine g_iconst F dL_law_764 (1) (by decide) ?_
                      refine g_icmp_ne 789 F dL_law_765 (by decide) (by decide) rfl (fun c_9 => ?_) (fun c_9 => ?_)
                      · skip
                        exact absurd c_9 (by decide)
                      · skip
                        refine g_aload_n F dL_law_768 rfl 2 rfl ?_
                        refine g_callV 0 F (As := []) (st := []) (c_X7_upper l D ad u_761 y  ) (gR_7) rfl mk_L_123 ki_X7_upper kc_X7_upper (by decide +kernel) rfl (by decide) dL_law_769 rfl (Nat.le_of_ble_eq_true rfl) (pL_k ?_)
                        refine g_lconst F dL_law_772 0 (by decide) ?_
                        refine g_lcmp_lt 789 F dL_law_773 dL_law_774 (by omega) (by decide) rfl (fun c_10 => ?_) (fun c_10 => ?_)
                        · skip
                          exfalso; omega
                        · skip
                          refine g_aload_n F dL_law_777 rfl 2 rfl ?_
                          refine g_callV 0 F (As := []) (st := []) (c_X7_upper l D ad u_761 y  ) (gR_7) rfl mk_L_123 ki_X7_upper kc_X7_upper (by decide +kernel) rfl (by decide) dL_law_778 rfl (Nat.le_of_ble_eq_true rfl) (pL_k ?_)
                          refine g_aload_n F dL_law_781 rfl 2 rfl ?_
                          refine g_callV 0 F (As := []) (st := [.long (Lg (u_761 8 0 0))]) (c_X7_lower l D ad u_761 y  ) (gR_7) rfl mk_L_126 ki_X7_lower kc_X7_lower (by decide +kernel) rfl (by decide) dL_law_782 rfl (Nat.le_of_ble_eq_true rfl) (pL_k ?_)
                          refine g_lcmp_le 791 F dL_law_785 dL_law_786 (by omega) (by omega) rfl (fun c_11 => ?_) (fun c_11 => ?_)
                          · skip
                            refine g_iinc F [(20, .int (J (h + 1))), (21, .int (J (awU z (h)))), (0, .ref b), (1, .ref (ad 7 (0))), (2, .ref (ad 41 (0))), (3, .ref (ad 42 (0))), (4, .ref (ad 43 (0))), (5, .int (J (z 10 0 0))), (6, .long (Lg (bg))), (8, .int (J (t))), (9, .int (J (xx))), (10, .int (J (z 16 0 0))), (11, .int (J (z 15 0 0))), (12, .int (J (trU z))), (13, .int (J (tcU z))), (14, .int (J (twU z))), (15, .int (J (cmB z))), (16, .int (J (clB z))), (17, .int (J (fo))), (18, .int (J (bh))), (19, .int (J (few)))] 20 rfl dL_law_791 (by decide) rfl ?_
                            refine g_goto F 713 dL_law_794 rfl ?_
                            refine g_sub [2, 3, 4, 5, 6, 7, 8, 9, 10, 11, 12, 13, 14, 15, 16, 17, 18, 19, 20, 0] (lv' := [(0, .ref b), (1, .ref (ad 7 (0))), (2, .ref (ad 41 (0))), (3, .ref (ad 42 (0))), (4, .ref (ad 43 (0))), (5, .int (J (z 10 0 0))), (6, .long (Lg (bg))), (8, .int (J (t))), (9, .int (J (xx))), (10, .int (J (z 16 0 0))), (11, .int (J (z 15 0 0))), (12, .int (J (trU z))), (13, .int (J (tcU z))), (14, .int (J (twU z))), (15, .int (J (cmB z))), (16, .int (J (clB z))), (17, .int (J (fo))), (18, .int (J (bh))), (19, .int (J (few))), (20, .int (J (h + 1)))]) rfl ?_
                            exact ih713 (u_761) (h + 1) (by omega) (A_u_761) (by omega)
                          · skip
                            exfalso; omega
                  · skip
                    refine g_iload F dL_law_742 20 rfl ?_
                    refine g_iload F dL_law_744 18 rfl ?_
                    refine g_icmp_lt 789 F dL_law_746 (by omega) (by omega) rfl (fun c_12 => ?_) (fun c_12 => ?_)
                    · skip
                      have q := hb3 h (by omega) (by omega)
                      exfalso; omega
                    · skip
                      refine g_aload_n F dL_law_749 rfl 2 rfl ?_
                      refine g_callV 0 F (As := []) (st := []) (c_X7_asked l D ad u_723 y  ) (gR_7) rfl mk_L_73 ki_X7_asked kc_X7_asked (by decide +kernel) rfl (by decide) dL_law_750 rfl (Nat.le_of_ble_eq_true rfl) (pI_k ?_)
                      refine g_topi (b := gwU z (h)) (T_u_723) ?_
                      refine g_iload F dL_law_753 0 rfl ?_
                      refine g_icmp_gt 789 F dL_law_755 (by omega) (by omega) rfl (fun c_13 => ?_) (fun c_13 => ?_)
                      · skip
                        exfalso; omega
                      · skip
                        refine g_aload_n F dL_law_758 rfl 2 rfl ?_
                        refine g_iload F dL_law_759 20 rfl ?_
                        refine g_callV 1 F (As := [.int (J (h))]) (st := []) (c_X7_tells l D ad u_723 y (h) (by omega) (KP_I A_u_723)) (gR_7) rfl mk_L_121 ki_X7_tells kc_X7_tells (by decide +kernel) rfl (by decide) dL_law_761 rfl (Nat.le_of_ble_eq_true rfl) (pI_k ?_)
                        refine g_topi (b := 1) ((te_k A_u_723 hn (by omega)).1) ?_
                        refine g_nm (P := fun u_761 => KP z u u_761 ∧ (0 ≤ u_761 8 0 0 ∧ u_761 8 0 0 ≤ u_761 9 0 0) ∧ u_761 9 0 0 ≤ 4000000) ((te_k A_u_723 hn (by omega)).2) (fun u_761 ⟨A_u_761, T_u_761⟩ => ?_)
                        refine g_iconst F dL_law_764 (1) (by decide) ?_
                        refine g_icmp_ne 789 F dL_law_765 (by decide) (by decide) rfl (fun c_14 => ?_) (fun c_14 => ?_)
                        · skip
                          exact absurd c_14 (by decide)
                        · skip
                          refine g_aload_n F dL_law_768 rfl 2 rfl ?_
                          refine g_callV 0 F (As := []) (st := []) (c_X7_upper l D ad u_761 y  ) (gR_7) rfl mk_L_123 ki_X7_upper kc_X7_upper (by decide +kernel) rfl (by decide) dL_law_769 rfl (Nat.le_of_ble_eq_true rfl) (pL_k ?_)
                          refine g_lconst F dL_law_772 0 (by decide) ?_
                          refine g_lcmp_lt 789 F dL_law_773 dL_law_774 (by omega) (by decide) rfl (fun c_15 => ?_) (fun c_15 => ?_)
                          · skip
                            exfalso; omega
                          · skip
                            refine g_aload_n F dL_law_777 rfl 2 rfl ?_
                            refine g_callV 0 F (As := []) (st := []) (c_X7_upper l D ad u_761 y  ) (gR_7) rfl mk_L_123 ki_X7_upper kc_X7_upper (by decide +kernel) rfl (by decide) dL_law_778 rfl (Nat.le_of_ble_eq_true rfl) (pL_k ?_)
                            refine g_aload_n F dL_law_781 rfl 2 rfl ?_
                            refine g_callV 0 F (As := []) (st := [.long (Lg (u_761 8 0 0))]) (c_X7_lower l D ad u_761 y  ) (gR_7) rfl mk_L_126 ki_X7_lower kc_X7_lower (by decide +kernel) rfl (by decide) dL_law_782 rfl (Nat.le_of_ble_eq_true rfl) (pL_k ?_)
                            refine g_lcmp_le 791 F dL_law_785 dL_law_786 (by omega) (by omega) rfl (fun c_16 => ?_) (fun c_16 => ?_)
                            · skip
                              refine g_iinc F [(20, .int (J (h + 1))), (21, .int (J (awU z (h)))), (0, .ref b), (1, .ref (ad 7 (0))), (2, .ref (ad 41 (0))), (3, .ref (ad 42 (0))), (4, .ref (ad 43 (0))), (5, .int (J (z 10 0 0))), (6, .long (Lg (bg))), (8, .int (J (t))), (9, .int (J (xx))), (10, .int (J (z 16 0 0))), (11, .int (J (z 15 0 0))), (12, .int (J (trU z))), (13, .int (J (tcU z))), (14, .int (J (twU z))), (15, .int (J (cmB z))), (16, .int (J (clB z))), (17, .int (J (fo))), (18, .int (J (bh))), (19, .int (J (few)))] 20 rfl dL_law_791 (by decide) rfl ?_
                              refine g_goto F 713 dL_law_794 rfl ?_
                              refine g_sub [2, 3, 4, 5, 6, 7, 8, 9, 10, 11, 12, 13, 14, 15, 16, 17, 18, 19, 20, 0] (lv' := [(0, .ref b), (1, .ref (ad 7 (0))), (2, .ref (ad 41 (0))), (3, .ref (ad 42 (0))), (4, .ref (ad 43 (0))), (5, .int (J (z 10 0 0))), (6, .long (Lg (bg))), (8, .int (J (t))), (9, .int (J (xx))), (10, .int (J (z 16 0 0))), (11, .int (J (z 15 0 0))), (12, .int (J (trU z))), (13, .int (J (tcU z))), (14, .int (J (twU z))), (15, .int (J (cmB z))), (16, .int (J (clB z))), (17, .int (J (fo))), (18, .int (J (bh))), (19, .int (J (few))), (20, .int (J (h + 1)))]) rfl ?_
                              exact ih713 (u_761) (h + 1) (by omega) (A_u_761) (by omega)
                            · skip
                              exfalso; omega
          refine g_sub [3, 4, 5, 6, 7, 8, 9, 10, 11, 12, 13, 14, 15, 16, 17, 18, 19, 2, 1, 0] (lv' := [(0, .ref b), (1, .ref (ad 7 (0))), (2, .ref (ad 41 (0))), (3, .ref (ad 42 (0))), (4, .ref (ad 43 (0))), (5, .int (J (z 10 0 0))), (6, .long (Lg (bg))), (8, .int (J (t))), (9, .int (J (xx))), (10, .int (J (z 16 0 0))), (11, .int (J (z 15 0 0))), (12, .int (J (trU z))), (13, .int (J (tcU z))), (14, .int (J (twU z))), (15, .int (J (cmB z))), (16, .int (J (clB z))), (17, .int (J (fo))), (18, .int (J (bh))), (19, .int (J (few))), (20, .int (J (0)))]) rfl ?_
          exact L713 _ (u_691) (0) (by omega) (A_u_691) (Nat.lt_succ_self _)
        · skip
          exfalso; omega
