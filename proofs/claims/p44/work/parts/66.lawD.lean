theorem ord_1 {z : gX} (hn : 1 ≤ z 10 0 0) : (sOrder z 1).1 = (ordB z).1 := by
  unfold sOrder
  rw [show rRf z 1 = 0 by unfold rRf; rw [if_neg (by decide), if_neg (by omega)], if_neg (fun c => c rfl)]
theorem un_sT {z : gX} {i : Int} (h0 : 0 ≤ i) (h : z 6 i 0 ≠ -9) : unN z (i + 1).toNat = unN z i.toNat := by
  rw [show (i + 1).toNat = i.toNat + 1 by omega]
  show unN z i.toNat ++ (if z 6 (i.toNat : Int) 0 = -9 then [(i.toNat : Int)] else []) = _
  rw [Int.toNat_of_nonneg h0, if_neg h, List.append_nil]
theorem un_sF {z : gX} {i : Int} (h0 : 0 ≤ i) (h : z 6 i 0 = -9) : unN z (i + 1).toNat = unN z i.toNat ++ [i] := by
  rw [show (i + 1).toNat = i.toNat + 1 by omega]
  show unN z i.toNat ++ (if z 6 (i.toNat : Int) 0 = -9 then [(i.toNat : Int)] else []) = _
  rw [Int.toNat_of_nonneg h0, if_pos h]
theorem un_m (z : gX) (a : Nat) : ∀ d : Nat, (unN z a).length ≤ (unN z (a + d)).length
  | 0 => Nat.le_refl _
  | d + 1 => by
    have := un_m z a d
    show _ ≤ (unN z (a + d) ++ _).length
    rw [List.length_append]; omega
theorem un_lt {z : gX} {i : Int} (hi : 0 ≤ i ∧ i < z 10 0 0) (h : z 6 i 0 = -9) : ((unN z i.toNat).length : Int) < utN z := by
  rw [ut_L]
  have e := un_sF (z := z) hi.1 h
  have m := un_m z (i + 1).toNat ((z 10 0 0).toNat - (i + 1).toNat)
  rw [e, show (i + 1).toNat + ((z 10 0 0).toNat - (i + 1).toNat) = (z 10 0 0).toNat by omega, List.length_append] at m
  have : ([i] : List Int).length = 1 := rfl
  show _ < ((unN z (z 10 0 0).toNat).length : Int)
  omega
set_option maxHeartbeats 1000000 in
set_option maxRecDepth 20000 in
theorem law_D {Θ : gT} {l : Launch} {D : gD} {ad : gA} {b : Nat} {bg t xx fo : Int} {z : gX} {y : gY} (F : gF Θ l D ad cL_law RL 37 20) (hz : INV z) (hn : 1 ≤ z 10 0 0) (h16 : z 16 0 0 ≤ 9) (kk : ∀ v : gX, KP z v v → gW Θ l D ad 37 1024 [(0, .ref b), (1, .ref (ad 7 (0))), (2, .ref (ad 41 (0))), (3, .ref (ad 42 (0))), (4, .ref (ad 43 (0))), (5, .int (J (z 10 0 0))), (6, .long (Lg (bg))), (8, .int (J (t))), (9, .int (J (xx))), (10, .int (J (z 16 0 0))), (11, .int (J (z 15 0 0))), (12, .int (J (trU z))), (13, .int (J (tcU z))), (14, .int (J (twU z))), (15, .int (J (cmB z))), (16, .int (J (clB z))), (17, .int (J (fo)))] [] v y) : gW Θ l D ad 37 797 [(0, .ref b), (1, .ref (ad 7 (0))), (2, .ref (ad 41 (0))), (3, .ref (ad 42 (0))), (4, .ref (ad 43 (0))), (5, .int (J (z 10 0 0))), (6, .long (Lg (bg))), (8, .int (J (t))), (9, .int (J (xx))), (10, .int (J (z 16 0 0))), (11, .int (J (z 15 0 0))), (12, .int (J (trU z))), (13, .int (J (tcU z))), (14, .int (J (twU z))), (15, .int (J (cmB z))), (16, .int (J (clB z))), (17, .int (J (fo)))] [] z y := by
  have h10 := hz.1.2.1
  have h15 := hz.1.2.2.1
  have h160 := hz.2.2.1.1.1
  have htr := trU_r hz.1
  have hcm := cmB_r hz.1
  have hcl := clB_r hz.1
  have htc := tc_r hz.1
  have htw := tw_r hz.1
  have A0 := KP_rf hz
  refine g_aload_n F dL_law_797 rfl 1 rfl ?_
  refine g_iconst F dL_law_798 (1) (by decide) ?_
  refine g_callV 1 F (As := [.int (J (1))]) (st := []) (c_X7_order l D ad z y (1) (by omega) (KP_I A0)) (gR_7) rfl mk_L_129 ki_X7_order kc_X7_order (by decide +kernel) rfl (by decide) dL_law_799 rfl (Nat.le_of_ble_eq_true rfl) (pG_k (fun u_799 hG_799 => ?_))
  refine g_topi (b := (ordB z).1) (ord_1 hn) ?_
  obtain ⟨A1, o17, o20⟩ := ord_k hz hn hG_799
  refine g_nmi (P := fun od => od = (ordB z).1) (rfl) (fun od h_od => ?_)
  refine g_istore F [(20, .int (J (od))), (0, .ref b), (1, .ref (ad 7 (0))), (2, .ref (ad 41 (0))), (3, .ref (ad 42 (0))), (4, .ref (ad 43 (0))), (5, .int (J (z 10 0 0))), (6, .long (Lg (bg))), (8, .int (J (t))), (9, .int (J (xx))), (10, .int (J (z 16 0 0))), (11, .int (J (z 15 0 0))), (12, .int (J (trU z))), (13, .int (J (tcU z))), (14, .int (J (twU z))), (15, .int (J (cmB z))), (16, .int (J (clB z))), (17, .int (J (fo)))] dL_law_802 (by decide) rfl ?_
  refine g_iload F dL_law_804 6 rfl ?_
  refine g_iload F dL_law_806 12 rfl ?_
  refine g_callS 1 F (As := [.int (J (trU z))]) (st := [.int (J (z 10 0 0))]) (c_L_bits l D ad u_799 y (trU z) (by omega)) rfl mk_L_132 ki_L_bits kc_L_bits (by decide +kernel) rfl (by decide) dL_law_808 rfl (Nat.le_of_ble_eq_true rfl) (pI_k ?_)
  refine g_isub F dL_law_811 ?_
  refine g_topi (b := utN z) (left_n hz.1) ?_
  refine g_nmi (P := fun lf => lf = utN z ∧ 0 ≤ lf ∧ lf ≤ 6) (⟨rfl, utN_r hz.1⟩) (fun lf h_lf => ?_)
  have hlf := h_lf.2
  have hod : 0 ≤ od ∧ od ≤ lf := by rw [h_od, h_lf.1]; exact ord_r hz.1
  rw [← h_lf.1] at o17 o20
  have hOK : OKF z (fnL (ordB z).2) lf := by rw [h_lf.1]; exact OKF_or hz.1
  refine g_istore F [(21, .int (J (lf))), (20, .int (J (od))), (0, .ref b), (1, .ref (ad 7 (0))), (2, .ref (ad 41 (0))), (3, .ref (ad 42 (0))), (4, .ref (ad 43 (0))), (5, .int (J (z 10 0 0))), (6, .long (Lg (bg))), (8, .int (J (t))), (9, .int (J (xx))), (10, .int (J (z 16 0 0))), (11, .int (J (z 15 0 0))), (12, .int (J (trU z))), (13, .int (J (tcU z))), (14, .int (J (twU z))), (15, .int (J (cmB z))), (16, .int (J (clB z))), (17, .int (J (fo)))] dL_law_812 (by decide) rfl ?_
  refine g_iload F dL_law_814 1 rfl ?_
  refine g_if_lt 848 F dL_law_816 (by omega) rfl (fun c_1 => ?_) (fun c_1 => ?_)
  · skip
    exfalso; omega
  · skip
    refine g_iload F dL_law_819 1 rfl ?_
    refine g_iload F dL_law_821 0 rfl ?_
    refine g_icmp_gt 848 F dL_law_823 (by omega) (by omega) rfl (fun c_2 => ?_) (fun c_2 => ?_)
    · skip
      exfalso; omega
    · skip
      refine g_aload_n F dL_law_826 rfl 3 rfl ?_
      refine g_iconst F dL_law_827 (1) (by decide) ?_
      refine g_iload F dL_law_828 0 rfl ?_
      refine g_callV 2 F (As := [.int (J (1)), .int (J (lf))]) (st := []) (c_X7_at l D ad u_799 y (1) (lf) (by omega) (by omega) (KP_I A1)) (gR_7) rfl mk_L_135 ki_X7_at kc_X7_at (by decide +kernel) rfl (by decide) dL_law_830 rfl (Nat.le_of_ble_eq_true rfl) (pI_k ?_)
      refine g_topi (b := -3) (by have q := (at_no A1 (R := 1) (by decide) (by omega)).1; rw [o17] at q; exact q) ?_
      refine g_nm (P := fun u_830 => KP z u_799 u_830) (by have q := (at_no A1 (R := 1) (by decide) (by omega)).2; rw [o17] at q; exact q) (fun u_830 A_u_830 => ?_)
      refine g_bipush F dL_law_833 (-3) (by decide) ?_
      refine g_icmp_ne 848 F dL_law_835 (by decide) (by decide) rfl (fun c_3 => ?_) (fun c_3 => ?_)
      · skip
        exact absurd c_3 (by decide)
      · skip
        refine g_aload_n F dL_law_838 rfl 3 rfl ?_
        refine g_iconst F dL_law_839 (1) (by decide) ?_
        refine g_callV 1 F (As := [.int (J (1))]) (st := []) (c_X7_tried l D ad u_830 y (1) (by omega) (KP_I A_u_830)) (gR_7) rfl mk_L_138 ki_X7_tried kc_X7_tried (by decide +kernel) rfl (by decide) dL_law_840 rfl (Nat.le_of_ble_eq_true rfl) (pI_k ?_)
        refine g_topi (b := od) (by rw [(trd_k A_u_830 hn (R := 1) (m := lf) (f := fnL (ordB z).2) (by decide) o17 o20 hOK hlf).1, h_od, ord_v hz.1, h_lf.1]) ?_
        refine g_nm (P := fun u_840 => KP z u_799 u_840 ∧ u_840 19 0 0 = (evN z (fnL (ordB z).2) lf.toNat).2.2) ((trd_k A_u_830 hn (R := 1) (m := lf) (f := fnL (ordB z).2) (by decide) o17 o20 hOK hlf).2) (fun u_840 ⟨A_u_840, T_u_840⟩ => ?_)
        refine g_iload F dL_law_843 1 rfl ?_
        refine g_icmp_eq 850 F dL_law_845 (by omega) (by omega) rfl (fun c_4 => ?_) (fun c_4 => ?_)
        · skip
          refine g_aload_n F dL_law_850 rfl 3 rfl ?_
          refine g_callV 0 F (As := []) (st := []) (c_X7_asked l D ad u_840 y  ) (gR_7) rfl mk_L_73 ki_X7_asked kc_X7_asked (by decide +kernel) rfl (by decide) dL_law_851 rfl (Nat.le_of_ble_eq_true rfl) (pI_k ?_)
          refine g_topi (b := (evN z (fnL (ordB z).2) lf.toNat).2.2) (T_u_840) ?_
          refine g_nmi (P := fun th => th = (evN z (fnL (ordB z).2) lf.toNat).2.2) (rfl) (fun th h_th => ?_)
          have hth : 0 ≤ th ∧ th ≤ 30 := by rw [h_th]; exact (evN_r hz.1 _ _).2.2
          refine g_istore F [(22, .int (J (th))), (21, .int (J (lf))), (20, .int (J (od))), (0, .ref b), (1, .ref (ad 7 (0))), (2, .ref (ad 41 (0))), (3, .ref (ad 42 (0))), (4, .ref (ad 43 (0))), (5, .int (J (z 10 0 0))), (6, .long (Lg (bg))), (8, .int (J (t))), (9, .int (J (xx))), (10, .int (J (z 16 0 0))), (11, .int (J (z 15 0 0))), (12, .int (J (trU z))), (13, .int (J (tcU z))), (14, .int (J (twU z))), (15, .int (J (cmB z))), (16, .int (J (clB z))), (17, .int (J (fo)))] dL_law_854 (by decide) rfl ?_
          refine g_iconst F dL_law_856 (0) (by decide) ?_
          refine g_istore F [(23, .int (J (0))), (22, .int (J (th))), (21, .int (J (lf))), (20, .int (J (od))), (0, .ref b), (1, .ref (ad 7 (0))), (2, .ref (ad 41 (0))), (3, .ref (ad 42 (0))), (4, .ref (ad 43 (0))), (5, .int (J (z 10 0 0))), (6, .long (Lg (bg))), (8, .int (J (t))), (9, .int (J (xx))), (10, .int (J (z 16 0 0))), (11, .int (J (z 15 0 0))), (12, .int (J (trU z))), (13, .int (J (tcU z))), (14, .int (J (twU z))), (15, .int (J (cmB z))), (16, .int (J (clB z))), (17, .int (J (fo)))] dL_law_857 (by decide) rfl ?_
          have L859 : ∀ (N : Nat) (u5 : gX) (k : Int), 0 ≤ k ∧ k ≤ lf → RUN z u_799 (fnL (ordB z).2) k u5 → (lf - k).toNat < N → gW Θ l D ad 37 859 [(0, .ref b), (1, .ref (ad 7 (0))), (2, .ref (ad 41 (0))), (3, .ref (ad 42 (0))), (4, .ref (ad 43 (0))), (5, .int (J (z 10 0 0))), (6, .long (Lg (bg))), (8, .int (J (t))), (9, .int (J (xx))), (10, .int (J (z 16 0 0))), (11, .int (J (z 15 0 0))), (12, .int (J (trU z))), (13, .int (J (tcU z))), (14, .int (J (twU z))), (15, .int (J (cmB z))), (16, .int (J (clB z))), (17, .int (J (fo))), (20, .int (J (od))), (21, .int (J (lf))), (22, .int (J (th))), (23, .int (J (k)))] [] u5 y := by
            intro N
            induction N with
            | zero => intro u5 k hk hR hFu; omega
            | succ N ih859 =>
              intro u5 k hk hR hFu
              refine g_iload F dL_law_859 20 rfl ?_
              refine g_iload F dL_law_861 18 rfl ?_
              refine g_icmp_ge 910 F dL_law_863 (by omega) (by omega) rfl (fun c_5 => ?_) (fun c_5 => ?_)
              · skip
                have ek : k = lf := by omega
                rw [ek] at hR
                have L951 : ∀ (u6 : gX), KP z u_799 u6 → gW Θ l D ad 37 951 [(0, .ref b), (1, .ref (ad 7 (0))), (2, .ref (ad 41 (0))), (3, .ref (ad 42 (0))), (4, .ref (ad 43 (0))), (5, .int (J (z 10 0 0))), (6, .long (Lg (bg))), (8, .int (J (t))), (9, .int (J (xx))), (10, .int (J (z 16 0 0))), (11, .int (J (z 15 0 0))), (12, .int (J (trU z))), (13, .int (J (tcU z))), (14, .int (J (twU z))), (15, .int (J (cmB z))), (16, .int (J (clB z))), (17, .int (J (fo))), (20, .int (J (od))), (21, .int (J (lf)))] [] u6 y := by
                  intro u6 A6
                  refine g_aload_n F dL_law_951 rfl 1 rfl ?_
                  refine g_iconst F dL_law_952 (2) (by decide) ?_
                  refine g_iload F dL_law_953 18 rfl ?_
                  refine g_callV 2 F (As := [.int (J (2)), .int (J (lf))]) (st := []) (c_X7_row l D ad u6 y (2) (lf) (by omega) (by omega) (KP_I A6)) (gR_7) rfl mk_L_141 ki_X7_row kc_X7_row (by decide +kernel) rfl (by decide) dL_law_955 rfl (Nat.le_of_ble_eq_true rfl) (pI_k ?_)
                  refine g_topi (b := lf) ((row_k A6 (R := 2) (by decide) ⟨by omega, by omega⟩).1) ?_
                  refine g_nm (P := fun u_955 => KP z u_955 u_955 ∧ u_955 17 2 0 = lf) ((row_k A6 (R := 2) (by decide) ⟨by omega, by omega⟩).2) (fun u_955 ⟨A_u_955, w17⟩ => ?_)
                  refine g_iload F dL_law_958 18 rfl ?_
                  refine g_icmp_eq 965 F dL_law_960 (by omega) (by omega) rfl (fun c_6 => ?_) (fun c_6 => ?_)
                  · skip
                    refine g_iconst F dL_law_965 (0) (by decide) ?_
                    refine g_istore F [(23, .int (J (0))), (0, .ref b), (1, .ref (ad 7 (0))), (2, .ref (ad 41 (0))), (3, .ref (ad 42 (0))), (4, .ref (ad 43 (0))), (5, .int (J (z 10 0 0))), (6, .long (Lg (bg))), (8, .int (J (t))), (9, .int (J (xx))), (10, .int (J (z 16 0 0))), (11, .int (J (z 15 0 0))), (12, .int (J (trU z))), (13, .int (J (tcU z))), (14, .int (J (twU z))), (15, .int (J (cmB z))), (16, .int (J (clB z))), (17, .int (J (fo))), (20, .int (J (od))), (21, .int (J (lf)))] dL_law_966 (by decide) rfl ?_
                    refine g_iconst F dL_law_968 (0) (by decide) ?_
                    refine g_istore F [(24, .int (J (0))), (23, .int (J (0))), (0, .ref b), (1, .ref (ad 7 (0))), (2, .ref (ad 41 (0))), (3, .ref (ad 42 (0))), (4, .ref (ad 43 (0))), (5, .int (J (z 10 0 0))), (6, .long (Lg (bg))), (8, .int (J (t))), (9, .int (J (xx))), (10, .int (J (z 16 0 0))), (11, .int (J (z 15 0 0))), (12, .int (J (trU z))), (13, .int (J (tcU z))), (14, .int (J (twU z))), (15, .int (J (cmB z))), (16, .int (J (clB z))), (17, .int (J (fo))), (20, .int (J (od))), (21, .int (J (lf)))] dL_law_969 (by decide) rfl ?_
                    have L971 : ∀ (N : Nat) (u7 : gX) (a : Int) (i : Int), 0 ≤ i ∧ i ≤ z 10 0 0 → KP z u7 u7 → u7 17 2 0 = lf → a = ((unN z i.toNat).length : Int) → (∀ j : Int, 0 ≤ j → j < a → u7 20 2 j = fnL (unN z i.toNat) j) → (z 10 0 0 - i).toNat < N → gW Θ l D ad 37 971 [(0, .ref b), (1, .ref (ad 7 (0))), (2, .ref (ad 41 (0))), (3, .ref (ad 42 (0))), (4, .ref (ad 43 (0))), (5, .int (J (z 10 0 0))), (6, .long (Lg (bg))), (8, .int (J (t))), (9, .int (J (xx))), (10, .int (J (z 16 0 0))), (11, .int (J (z 15 0 0))), (12, .int (J (trU z))), (13, .int (J (tcU z))), (14, .int (J (twU z))), (15, .int (J (cmB z))), (16, .int (J (clB z))), (17, .int (J (fo))), (20, .int (J (od))), (21, .int (J (lf))), (23, .int (J (a))), (24, .int (J (i)))] [] u7 y := by
                      intro N
                      induction N with
                      | zero => intro u7 a i hi A7 w7 ha hl hFu; omega
                      | succ N ih971 =>
                        intro u7 a i hi A7 w7 ha hl hFu
                        refine g_iload F dL_law_971 20 rfl ?_
                        refine g_iload F dL_law_973 5 rfl ?_
                        refine g_icmp_ge 1012 F dL_law_975 (by omega) (by omega) rfl (fun c_7 => ?_) (fun c_7 => ?_)
                        · skip
                          have ei : i = z 10 0 0 := by omega
                          rw [ei] at ha hl
                          have ea : a = lf := by rw [ha, h_lf.1, ut_L]
                          refine g_aload_n F dL_law_1012 rfl 1 rfl ?_
                          refine g_iconst F dL_law_1013 (2) (by decide) ?_
                          refine g_callV 1 F (As := [.int (J (2))]) (st := []) (c_X7_tried l D ad u7 y (2) (by omega) (KP_I A7)) (gR_7) rfl mk_L_138 ki_X7_tried kc_X7_tried (by decide +kernel) rfl (by decide) dL_law_1014 rfl (Nat.le_of_ble_eq_true rfl) (pI_k ?_)
                          refine g_topi (b := (evN z (fnL (unU z)) lf.toNat).1) ((trd_k A7 hn (R := 2) (m := lf) (f := fnL (unU z)) (by decide) w7 (fun j a b => hl j a (by omega)) (by rw [h_lf.1]; exact OKF_un hz.1) hlf).1) ?_
                          refine g_nm (P := fun u_1014 => KP z u7 u_1014 ∧ u_1014 19 0 0 = (evN z (fnL (unU z)) lf.toNat).2.2) ((trd_k A7 hn (R := 2) (m := lf) (f := fnL (unU z)) (by decide) w7 (fun j a b => hl j a (by omega)) (by rw [h_lf.1]; exact OKF_un hz.1) hlf).2) (fun u_1014 ⟨A_u_1014, T_u_1014⟩ => ?_)
                          refine g_nmi (P := fun o2 => od ≤ o2 ∧ o2 ≤ 6) (⟨by rw [h_od, h_lf.1]; exact ord_le, by have := (evN_r hz.1 (fnL (unU z)) lf.toNat).1; omega⟩) (fun o2 h_o2 => ?_)
                          refine g_iload F dL_law_1017 17 rfl ?_
                          refine g_icmp_ge 1024 F dL_law_1019 (by omega) (by omega) rfl (fun c_8 => ?_) (fun c_8 => ?_)
                          · skip
                            refine g_sub [0, 1, 2, 3, 4, 5, 6, 7, 8, 9, 10, 11, 12, 13, 14, 15, 16] (lv' := [(0, .ref b), (1, .ref (ad 7 (0))), (2, .ref (ad 41 (0))), (3, .ref (ad 42 (0))), (4, .ref (ad 43 (0))), (5, .int (J (z 10 0 0))), (6, .long (Lg (bg))), (8, .int (J (t))), (9, .int (J (xx))), (10, .int (J (z 16 0 0))), (11, .int (J (z 15 0 0))), (12, .int (J (trU z))), (13, .int (J (tcU z))), (14, .int (J (twU z))), (15, .int (J (cmB z))), (16, .int (J (clB z))), (17, .int (J (fo)))]) rfl ?_
                            exact kk _ (KP_re A_u_1014)
                          · skip
                            exfalso; omega
                        · skip
                          refine g_iload F dL_law_978 11 rfl ?_
                          refine g_iload F dL_law_980 20 rfl ?_
                          refine g_ishr F dL_law_982 (trU z / p2 i) (J_shr ⟨htr.1, by omega⟩ ⟨by omega, by omega⟩) ?_
                          refine g_iconst F dL_law_983 (1) (by decide) ?_
                          refine g_iand F dL_law_984 (trU z / p2 i % 2) (J_bt ⟨htr.1, by omega⟩ ⟨by omega, by omega⟩) ?_
                          refine g_topi (b := if z 6 i 0 ≠ -9 then 1 else 0) (bit_of (P := fun q => z 6 q 0 ≠ -9) hi.1 (by omega)) ?_
                          refine g_ifb_ne 1006 F dL_law_985 rfl (fun c_9 => ?_) (fun c_9 => ?_)
                          · skip
                            have nA := A7
                            have nW := w7
                            have eun := un_sT (z := z) hi.1 c_9
                            have nH : a = ((unN z (i + 1).toNat).length : Int) := by rw [eun]; exact ha
                            have nL : ∀ j : Int, 0 ≤ j → j < a → u7 20 2 j = fnL (unN z (i + 1).toNat) j := by rw [eun]; exact hl
                            refine g_iinc F [(24, .int (J (i + 1))), (0, .ref b), (1, .ref (ad 7 (0))), (2, .ref (ad 41 (0))), (3, .ref (ad 42 (0))), (4, .ref (ad 43 (0))), (5, .int (J (z 10 0 0))), (6, .long (Lg (bg))), (8, .int (J (t))), (9, .int (J (xx))), (10, .int (J (z 16 0 0))), (11, .int (J (z 15 0 0))), (12, .int (J (trU z))), (13, .int (J (tcU z))), (14, .int (J (twU z))), (15, .int (J (cmB z))), (16, .int (J (clB z))), (17, .int (J (fo))), (20, .int (J (od))), (21, .int (J (lf))), (23, .int (J (a)))] 20 rfl dL_law_1006 (by decide) rfl ?_
                            refine g_goto F 971 dL_law_1009 rfl ?_
                            refine g_sub [1, 2, 3, 4, 5, 6, 7, 8, 9, 10, 11, 12, 13, 14, 15, 16, 17, 18, 19, 20, 0] (lv' := [(0, .ref b), (1, .ref (ad 7 (0))), (2, .ref (ad 41 (0))), (3, .ref (ad 42 (0))), (4, .ref (ad 43 (0))), (5, .int (J (z 10 0 0))), (6, .long (Lg (bg))), (8, .int (J (t))), (9, .int (J (xx))), (10, .int (J (z 16 0 0))), (11, .int (J (z 15 0 0))), (12, .int (J (trU z))), (13, .int (J (tcU z))), (14, .int (J (twU z))), (15, .int (J (cmB z))), (16, .int (J (clB z))), (17, .int (J (fo))), (20, .int (J (od))), (21, .int (J (lf))), (23, .int (J (a))), (24, .int (J (i + 1)))]) rfl ?_
                            exact ih971 (u7) (a) (i + 1) (by omega) (nA) (nW) (nH) (nL) (by omega)
                          · skip
                            have h6i : z 6 i 0 = -9 := by omega
                            have hal := un_lt (z := z) ⟨hi.1, by omega⟩ h6i
                            rw [← ha, ← h_lf.1] at hal
                            refine g_aload_n F dL_law_988 rfl 1 rfl ?_
                            refine g_iconst F dL_law_989 (2) (by decide) ?_
                            refine g_iload F dL_law_990 19 rfl ?_
                            refine g_iload F dL_law_992 20 rfl ?_
                            refine g_callV 3 F (As := [.int (J (2)), .int (J (a)), .int (J (i))]) (st := []) (c_X7_lay l D ad u7 y (2) (a) (i) (by omega) (by omega) (by omega) (KP_I A7)) (gR_7) rfl mk_L_144 ki_X7_lay kc_X7_lay (by decide +kernel) rfl (by decide) dL_law_994 rfl (Nat.le_of_ble_eq_true rfl) (pI_k ?_)
                            refine g_topi (b := 1) ((lay_k A7 (R := 2) (by decide) ⟨by omega, by rw [w7]; omega⟩ ⟨by omega, by omega⟩).1) ?_
                            refine g_nm (P := fun u_994 => KP z u_994 u_994 ∧ u_994 17 = u7 17 ∧ ∀ j : Int, u_994 20 2 j = if j = a then i else u7 20 2 j) ((lay_k A7 (R := 2) (by decide) ⟨by omega, by rw [w7]; omega⟩ ⟨by omega, by omega⟩).2) (fun u_994 ⟨nA, e17, e20⟩ => ?_)
                            have nW : u_994 17 2 0 = lf := by rw [e17]; exact w7
                            have eun := un_sF (z := z) hi.1 h6i
                            have nH : a + 1 = ((unN z (i + 1).toNat).length : Int) := by rw [eun, List.length_append, ha]; rfl
                            have nL : ∀ j : Int, 0 ≤ j → j < a + 1 → u_994 20 2 j = fnL (unN z (i + 1).toNat) j := fun j j0 j1 => by
                              rw [eun, e20]
                              by_cases c : j = a
                              · rw [if_pos c, c, ha, fnL_at]
                              · rw [if_neg c, fnL_app _ _ j0 (by omega)]; exact hl j j0 (by omega)
                            refine g_iconst F dL_law_997 (1) (by decide) ?_
                            refine g_icmp_eq 1003 F dL_law_998 (by decide) (by decide) rfl (fun c_10 => ?_) (fun c_10 => ?_)
                            · skip
                              refine g_iinc F [(23, .int (J (a + 1))), (0, .ref b), (1, .ref (ad 7 (0))), (2, .ref (ad 41 (0))), (3, .ref (ad 42 (0))), (4, .ref (ad 43 (0))), (5, .int (J (z 10 0 0))), (6, .long (Lg (bg))), (8, .int (J (t))), (9, .int (J (xx))), (10, .int (J (z 16 0 0))), (11, .int (J (z 15 0 0))), (12, .int (J (trU z))), (13, .int (J (tcU z))), (14, .int (J (twU z))), (15, .int (J (cmB z))), (16, .int (J (clB z))), (17, .int (J (fo))), (20, .int (J (od))), (21, .int (J (lf))), (24, .int (J (i)))] 19 rfl dL_law_1003 (by decide) rfl ?_
                              refine g_iinc F [(24, .int (J (i + 1))), (23, .int (J (a + 1))), (0, .ref b), (1, .ref (ad 7 (0))), (2, .ref (ad 41 (0))), (3, .ref (ad 42 (0))), (4, .ref (ad 43 (0))), (5, .int (J (z 10 0 0))), (6, .long (Lg (bg))), (8, .int (J (t))), (9, .int (J (xx))), (10, .int (J (z 16 0 0))), (11, .int (J (z 15 0 0))), (12, .int (J (trU z))), (13, .int (J (tcU z))), (14, .int (J (twU z))), (15, .int (J (cmB z))), (16, .int (J (clB z))), (17, .int (J (fo))), (20, .int (J (od))), (21, .int (J (lf)))] 20 rfl dL_law_1006 (by decide) rfl ?_
                              refine g_goto F 971 dL_law_1009 rfl ?_
                              refine g_sub [2, 3, 4, 5, 6, 7, 8, 9, 10, 11, 12, 13, 14, 15, 16, 17, 18, 19, 20, 1, 0] (lv' := [(0, .ref b), (1, .ref (ad 7 (0))), (2, .ref (ad 41 (0))), (3, .ref (ad 42 (0))), (4, .ref (ad 43 (0))), (5, .int (J (z 10 0 0))), (6, .long (Lg (bg))), (8, .int (J (t))), (9, .int (J (xx))), (10, .int (J (z 16 0 0))), (11, .int (J (z 15 0 0))), (12, .int (J (trU z))), (13, .int (J (tcU z))), (14, .int (J (twU z))), (15, .int (J (cmB z))), (16, .int (J (clB z))), (17, .int (J (fo))), (20, .int (J (od))), (21, .int (J (lf))), (23, .int (J (a + 1))), (24, .int (J (i + 1)))]) rfl ?_
                              exact ih971 (u_994) (a + 1) (i + 1) (by omega) (nA) (nW) (nH) (nL) (by omega)
                            · skip
                              exact absurd c_10 (by decide)
                    refine g_sub [2, 3, 4, 5, 6, 7, 8, 9, 10, 11, 12, 13, 14, 15, 16, 17, 18, 19, 20, 1, 0] (lv' := [(0, .ref b), (1, .ref (ad 7 (0))), (2, .ref (ad 41 (0))), (3, .ref (ad 42 (0))), (4, .ref (ad 43 (0))), (5, .int (J (z 10 0 0))), (6, .long (Lg (bg))), (8, .int (J (t))), (9, .int (J (xx))), (10, .int (J (z 16 0 0))), (11, .int (J (z 15 0 0))), (12, .int (J (trU z))), (13, .int (J (tcU z))), (14, .int (J (twU z))), (15, .int (J (cmB z))), (16, .int (J (clB z))), (17, .int (J (fo))), (20, .int (J (od))), (21, .int (J (lf))), (23, .int (J (0))), (24, .int (J (0)))]) rfl ?_
                    exact L971 _ (u_955) (0) (0) (by omega) (A_u_955) (w17) (rfl) (fun j a b => by omega) (Nat.lt_succ_self _)
                  · skip
                    exact absurd rfl c_6
                refine g_aload_n F dL_law_910 rfl 1 rfl ?_
                refine g_iconst F dL_law_911 (5) (by decide) ?_
                refine g_callV 1 F (As := [.int (J (5))]) (st := []) (c_X7_count l D ad u5 y (5) (by omega) (hR.1.1)) (gR_7) rfl mk_L_101 ki_X7_count kc_X7_count (by decide +kernel) rfl (by decide) dL_law_912 rfl (Nat.le_of_ble_eq_true rfl) (pI_k ?_)
                refine g_topi (b := (twU z) + (od)) ((show ctU u5 5 = twU u5 from rfl).trans (hR.2.2.2.2.1.trans (by rw [h_od, ord_v hz.1, h_lf.1]))) ?_
                refine g_iload F dL_law_915 13 rfl ?_
                refine g_iload F dL_law_917 17 rfl ?_
                refine g_iadd F dL_law_919 ?_
                refine g_icmp_ne 949 F dL_law_920 (by omega) (by omega) rfl (fun c_11 => ?_) (fun c_11 => ?_)
                · skip
                  exact absurd rfl c_11
                · skip
                  refine g_aload_n F dL_law_923 rfl 1 rfl ?_
                  refine g_iconst F dL_law_924 (1) (by decide) ?_
                  refine g_callV 1 F (As := [.int (J (1))]) (st := []) (c_X7_count l D ad u5 y (1) (by omega) (hR.1.1)) (gR_7) rfl mk_L_101 ki_X7_count kc_X7_count (by decide +kernel) rfl (by decide) dL_law_925 rfl (Nat.le_of_ble_eq_true rfl) (pI_k ?_)
                  refine g_topi (b := th) ((show ctU u5 1 = u5 15 0 0 from rfl).trans (hR.2.2.2.2.2.2.1.trans h_th.symm)) ?_
                  refine g_iload F dL_law_928 19 rfl ?_
                  refine g_icmp_ne 949 F dL_law_930 (by omega) (by omega) rfl (fun c_12 => ?_) (fun c_12 => ?_)
                  · skip
                    exact absurd rfl c_12
                  · skip
                    refine g_iload F dL_law_933 18 rfl ?_
                    refine g_if_le 951 F dL_law_935 (by omega) rfl (fun c_13 => ?_) (fun c_13 => ?_)
                    · skip
                      have nA := hR.2.2.2.2.2.2.2.2 (by omega)
                      refine g_sub [0, 1, 2, 3, 4, 5, 6, 7, 8, 9, 10, 11, 12, 13, 14, 15, 16, 17, 18] (lv' := [(0, .ref b), (1, .ref (ad 7 (0))), (2, .ref (ad 41 (0))), (3, .ref (ad 42 (0))), (4, .ref (ad 43 (0))), (5, .int (J (z 10 0 0))), (6, .long (Lg (bg))), (8, .int (J (t))), (9, .int (J (xx))), (10, .int (J (z 16 0 0))), (11, .int (J (z 15 0 0))), (12, .int (J (trU z))), (13, .int (J (tcU z))), (14, .int (J (twU z))), (15, .int (J (cmB z))), (16, .int (J (clB z))), (17, .int (J (fo))), (20, .int (J (od))), (21, .int (J (lf)))]) rfl ?_
                      exact L951 (u5) (nA)
                    · skip
                      refine g_aload_n F dL_law_938 rfl 1 rfl ?_
                      refine g_iload F dL_law_939 9 rfl ?_
                      refine g_callV 1 F (As := [.int (J (z 16 0 0))]) (st := []) (c_X7_undo l D ad u5 y (z 16 0 0) (by omega) (hR.1.1)) (gR_7) rfl mk_L_110 ki_X7_undo kc_X7_undo (by decide +kernel) rfl (by decide) dL_law_941 rfl (Nat.le_of_ble_eq_true rfl) (pI_k ?_)
                      refine g_topi (b := lf) ((undo_k (m := lf) hz hR.1 hR.2.2.2.1 hR.2.1 hR.2.2.1).1) ?_
                      refine g_nm (P := fun u_941 => KP z u_799 u_941) ((undo_k (m := lf) hz hR.1 hR.2.2.2.1 hR.2.1 hR.2.2.1).2) (fun u_941 A_u_941 => ?_)
                      have nA := A_u_941
                      refine g_iload F dL_law_944 18 rfl ?_
                      refine g_icmp_eq 951 F dL_law_946 (by omega) (by omega) rfl (fun c_14 => ?_) (fun c_14 => ?_)
                      · skip
                        refine g_sub [0, 1, 2, 3, 4, 5, 6, 7, 8, 9, 10, 11, 12, 13, 14, 15, 16, 17, 18] (lv' := [(0, .ref b), (1, .ref (ad 7 (0))), (2, .ref (ad 41 (0))), (3, .ref (ad 42 (0))), (4, .ref (ad 43 (0))), (5, .int (J (z 10 0 0))), (6, .long (Lg (bg))), (8, .int (J (t))), (9, .int (J (xx))), (10, .int (J (z 16 0 0))), (11, .int (J (z 15 0 0))), (12, .int (J (trU z))), (13, .int (J (tcU z))), (14, .int (J (twU z))), (15, .int (J (cmB z))), (16, .int (J (clB z))), (17, .int (J (fo))), (20, .int (J (od))), (21, .int (J (lf)))]) rfl ?_
                        exact L951 (u_941) (nA)
                      · skip
                        exact absurd rfl c_14
              · skip
                have hin : 0 ≤ k ∧ k < u5 17 1 0 := by rw [hR.2.1, o17]; omega
                refine g_aload_n F dL_law_866 rfl 1 rfl ?_
                refine g_iconst F dL_law_867 (1) (by decide) ?_
                refine g_iload F dL_law_868 20 rfl ?_
                refine g_callV 2 F (As := [.int (J (1)), .int (J (k))]) (st := []) (c_X7_at l D ad u5 y (1) (k) (by omega) (by omega) (hR.1.1)) (gR_7) rfl mk_L_135 ki_X7_at kc_X7_at (by decide +kernel) rfl (by decide) dL_law_870 rfl (Nat.le_of_ble_eq_true rfl) (pI_k ?_)
                refine g_topi (b := 1) (by rw [at_s (by decide) hin]) ?_
                refine g_nm (P := fun u_870 => RUN z u_799 (fnL (ordB z).2) k u_870 ∧ u_870 19 0 0 = fnL (ordB z).2 k) (by rw [at_s (by decide) hin]; exact ⟨RUN_tell hR _, (xU_same u5 19 0 0 _).trans (by rw [hR.2.2.1]; exact o20 k (by omega) (by omega))⟩) (fun u_870 ⟨R_u_870, T_u_870⟩ => ?_)
                refine g_iconst F dL_law_873 (1) (by decide) ?_
                refine g_icmp_ne 884 F dL_law_874 (by decide) (by decide) rfl (fun c_15 => ?_) (fun c_15 => ?_)
                · skip
                  exact absurd c_15 (by decide)
                · skip
                  refine g_aload_n F dL_law_877 rfl 1 rfl ?_
                  refine g_callV 0 F (As := []) (st := []) (c_X7_asked l D ad u_870 y  ) (gR_7) rfl mk_L_73 ki_X7_asked kc_X7_asked (by decide +kernel) rfl (by decide) dL_law_878 rfl (Nat.le_of_ble_eq_true rfl) (pI_k ?_)
                  refine g_topi (b := fnL (ordB z).2 k) (T_u_870) ?_
                  refine g_goto F 886 dL_law_881 rfl ?_
                  refine g_nmi (P := fun m => m = fnL (ordB z).2 k) (rfl) (fun m h_m => ?_)
                  have hj := (hOK k (by omega) (by omega)).1
                  rw [← h_m] at hj
                  refine g_istore F [(24, .int (J (m))), (0, .ref b), (1, .ref (ad 7 (0))), (2, .ref (ad 41 (0))), (3, .ref (ad 42 (0))), (4, .ref (ad 43 (0))), (5, .int (J (z 10 0 0))), (6, .long (Lg (bg))), (8, .int (J (t))), (9, .int (J (xx))), (10, .int (J (z 16 0 0))), (11, .int (J (z 15 0 0))), (12, .int (J (trU z))), (13, .int (J (tcU z))), (14, .int (J (twU z))), (15, .int (J (cmB z))), (16, .int (J (clB z))), (17, .int (J (fo))), (20, .int (J (od))), (21, .int (J (lf))), (22, .int (J (th))), (23, .int (J (k)))] dL_law_886 (by decide) rfl ?_
                  refine g_iload F dL_law_888 0 rfl ?_
                  refine g_if_lt 902 F dL_law_890 (by omega) rfl (fun c_16 => ?_) (fun c_16 => ?_)
                  · skip
                    exfalso; omega
                  · skip
                    refine g_aload_n F dL_law_893 rfl 2 rfl ?_
                    refine g_iload F dL_law_894 0 rfl ?_
                    refine g_callV 1 F (As := [.int (J (m))]) (st := []) (c_X7_trial l D ad u_870 y (m) (by omega) (R_u_870.1.1)) (gR_7) rfl mk_L_71 ki_X7_trial kc_X7_trial (by decide +kernel) rfl (by decide) dL_law_896 rfl (Nat.le_of_ble_eq_true rfl) (pI_k ?_)
                    refine g_nm (P := fun u_896 => RUN z u_799 (fnL (ordB z).2) (k + 1) u_896) (by rw [h_m]; exact (RUN_s R_u_870 hz hOK ⟨by omega, by omega⟩ (by omega)).2.2) (fun u_896 R_u_896 => ?_)
                    refine g_nmi (P := fun tv => 0 ≤ tv ∧ tv ≤ 2) (by rw [h_m]; exact ⟨(RUN_s R_u_870 hz hOK ⟨by omega, by omega⟩ (by omega)).1, (RUN_s R_u_870 hz hOK ⟨by omega, by omega⟩ (by omega)).2.1⟩) (fun tv h_tv => ?_)
                    refine g_if_ge 904 F dL_law_899 (by omega) rfl (fun c_17 => ?_) (fun c_17 => ?_)
                    · skip
                      refine g_iinc F [(23, .int (J (k + 1))), (24, .int (J (m))), (0, .ref b), (1, .ref (ad 7 (0))), (2, .ref (ad 41 (0))), (3, .ref (ad 42 (0))), (4, .ref (ad 43 (0))), (5, .int (J (z 10 0 0))), (6, .long (Lg (bg))), (8, .int (J (t))), (9, .int (J (xx))), (10, .int (J (z 16 0 0))), (11, .int (J (z 15 0 0))), (12, .int (J (trU z))), (13, .int (J (tcU z))), (14, .int (J (twU z))), (15, .int (J (cmB z))), (16, .int (J (clB z))), (17, .int (J (fo))), (20, .int (J (od))), (21, .int (J (lf))), (22, .int (J (th)))] 21 rfl dL_law_904 (by decide) rfl ?_
                      refine g_goto F 859 dL_law_907 rfl ?_
                      refine g_sub [2, 3, 4, 5, 6, 7, 8, 9, 10, 11, 12, 13, 14, 15, 16, 17, 18, 19, 20, 21, 0] (lv' := [(0, .ref b), (1, .ref (ad 7 (0))), (2, .ref (ad 41 (0))), (3, .ref (ad 42 (0))), (4, .ref (ad 43 (0))), (5, .int (J (z 10 0 0))), (6, .long (Lg (bg))), (8, .int (J (t))), (9, .int (J (xx))), (10, .int (J (z 16 0 0))), (11, .int (J (z 15 0 0))), (12, .int (J (trU z))), (13, .int (J (tcU z))), (14, .int (J (twU z))), (15, .int (J (cmB z))), (16, .int (J (clB z))), (17, .int (J (fo))), (20, .int (J (od))), (21, .int (J (lf))), (22, .int (J (th))), (23, .int (J (k + 1)))]) rfl ?_
                      exact ih859 (u_896) (k + 1) (by omega) (R_u_896) (by omega)
                    · skip
                      exfalso; omega
          refine g_sub [4, 5, 6, 7, 8, 9, 10, 11, 12, 13, 14, 15, 16, 17, 18, 19, 20, 3, 2, 1, 0] (lv' := [(0, .ref b), (1, .ref (ad 7 (0))), (2, .ref (ad 41 (0))), (3, .ref (ad 42 (0))), (4, .ref (ad 43 (0))), (5, .int (J (z 10 0 0))), (6, .long (Lg (bg))), (8, .int (J (t))), (9, .int (J (xx))), (10, .int (J (z 16 0 0))), (11, .int (J (z 15 0 0))), (12, .int (J (trU z))), (13, .int (J (tcU z))), (14, .int (J (twU z))), (15, .int (J (cmB z))), (16, .int (J (clB z))), (17, .int (J (fo))), (20, .int (J (od))), (21, .int (J (lf))), (22, .int (J (th))), (23, .int (J (0)))]) rfl ?_
          exact L859 _ (u_840) (0) (by omega) (RUN_0 A_u_840 _) (Nat.lt_succ_self _)
        · skip
          exact absurd rfl c_4
