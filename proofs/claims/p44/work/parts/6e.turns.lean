theorem tear_s {u v : gX} {r : Int} (r1 : v 17 r 0 = -1) (r2 : ∀ q : Int, q ≠ r → v 17 q = u 17 q) (hr : ∀ q : Int, 0 ≤ q → q < r → u 17 q 0 = -1) : ∀ q : Int, 0 ≤ q → q < r + 1 → v 17 q 0 = -1 := fun q a b => by
  by_cases c : q = r
  · rw [c]; exact r1
  · rw [r2 q c]; exact hr q a (by omega)
theorem law_tail {Θ : gT} {l : Launch} {D : gD} {ad : gA} {b : Nat} {z : gX} {bg t xx fo : Int} {u : gX} {y : gY} (F : gF Θ l D ad cL_law RL 37 20) (hz : INV z) (hn : 1 ≤ z 10 0 0) (h16 : z 16 0 0 ≤ 9) (A : KP z u u) (hp : PG z y) (hfo : fo = foU z (z 15 0 0)) (kk : ∀ v : gX, KP z v v → gW Θ l D ad 37 1994 [(0, .ref b), (1, .ref (ad 7 (0))), (2, .ref (ad 41 (0))), (3, .ref (ad 42 (0))), (4, .ref (ad 43 (0))), (5, .int (J (z 10 0 0))), (6, .long (Lg (bg))), (8, .int (J (t))), (9, .int (J (xx)))] [] v y) : gW Θ l D ad 37 1304 [(0, .ref b), (1, .ref (ad 7 (0))), (2, .ref (ad 41 (0))), (3, .ref (ad 42 (0))), (4, .ref (ad 43 (0))), (5, .int (J (z 10 0 0))), (6, .long (Lg (bg))), (8, .int (J (t))), (9, .int (J (xx))), (10, .int (J (z 16 0 0))), (11, .int (J (z 15 0 0))), (12, .int (J (trU z))), (13, .int (J (tcU z))), (14, .int (J (twU z))), (15, .int (J (cmB z))), (16, .int (J (clB z))), (17, .int (J (fo)))] [] u y := by
  refine law_F F hz hn h16 A (fun u1 A1 => ?_)
  refine law_G F hz hn h16 A1 hp (fun u2 A2 => ?_)
  refine law_H F hz hn h16 A2 hfo (fun u3 A3 => ?_)
  exact law_I F hz hn h16 A3 kk
set_option maxHeartbeats 1000000 in
theorem law_turn {Θ : gT} {l : Launch} {D : gD} {ad : gA} {b : Nat} {z : gX} {bg t xx : Int} {y : gY} (F : gF Θ l D ad cL_law RL 37 20) (hz : INV z) (hn : 1 ≤ z 10 0 0) (h16 : z 16 0 0 ≤ 9) (hp : PG z y) (hq : PV z y) (kk : ∀ (v : gX) (w : gY), EXT z v → v 16 0 0 = z 16 0 0 → PG v w → PV v w → gW Θ l D ad 37 1994 [(0, .ref b), (1, .ref (ad 7 (0))), (2, .ref (ad 41 (0))), (3, .ref (ad 42 (0))), (4, .ref (ad 43 (0))), (5, .int (J (z 10 0 0))), (6, .long (Lg (bg))), (8, .int (J (t))), (9, .int (J (xx)))] [] v w) : gW Θ l D ad 37 98 [(0, .ref b), (1, .ref (ad 7 (0))), (2, .ref (ad 41 (0))), (3, .ref (ad 42 (0))), (4, .ref (ad 43 (0))), (5, .int (J (z 10 0 0))), (6, .long (Lg (bg))), (8, .int (J (t))), (9, .int (J (xx)))] [] z y := by
  refine law_A F hz hn h16 (fun u1 A1 => ?_)
  refine law_B F hz hn h16 A1 (fun u2 fo A2 hfo => ?_)
  refine law_C F hz hn h16 A2 (fun u3 A3 => ?_)
  have e := A3.1.2.1
  have i3 := KP_I A3
  have q10 : z 10 0 0 = u3 10 0 0 := (KP_10 A3).symm
  have q16 : z 16 0 0 = u3 16 0 0 := A3.1.2.2.symm
  have q15 : z 15 0 0 = u3 15 0 0 := (e 15 0 0 (by omega)).symm
  have qtr : trU z = trU u3 := (trU_cE e).symm
  have qtc : tcU z = tcU u3 := (tcU_cE e).symm
  have qtw : twU z = twU u3 := (twU_cE e).symm
  have qcm : cmB z = cmB u3 := (cm_cE e).symm
  have qcl : clB z = clB u3 := (cl_cE e).symm
  have hfo3 : fo = foU u3 (u3 15 0 0) := by rw [hfo, q15]; exact (fo_cE e _).symm
  have hp3 : PG u3 y := PG_cS hp A3.1.1.2.1
  have hq3 : PV u3 y := PV_cE hq e
  have k3 : ∀ (v : gX) (w : gY), KP u3 v v → w 41 = y 41 → w 42 = y 42 → gW Θ l D ad 37 1994 [(0, .ref b), (1, .ref (ad 7 (0))), (2, .ref (ad 41 (0))), (3, .ref (ad 42 (0))), (4, .ref (ad 43 (0))), (5, .int (J (u3 10 0 0))), (6, .long (Lg (bg))), (8, .int (J (t))), (9, .int (J (xx)))] [] v w := fun v w A y1 y2 => by
    have A4 : AT z v := AT_tr A3.1 A.1
    rw [← q10]
    exact kk v w A4.1 A4.2.2 (PG_cS (PG_y hp y1) A4.1.2.1) (PV_cE (PV_y hq y2) A4.2.1)
  have goal : gW Θ l D ad 37 797 [(0, .ref b), (1, .ref (ad 7 (0))), (2, .ref (ad 41 (0))), (3, .ref (ad 42 (0))), (4, .ref (ad 43 (0))), (5, .int (J (u3 10 0 0))), (6, .long (Lg (bg))), (8, .int (J (t))), (9, .int (J (xx))), (10, .int (J (u3 16 0 0))), (11, .int (J (u3 15 0 0))), (12, .int (J (trU u3))), (13, .int (J (tcU u3))), (14, .int (J (twU u3))), (15, .int (J (cmB u3))), (16, .int (J (clB u3))), (17, .int (J (fo)))] [] u3 y := by
    refine law_D F i3 (by omega) (by omega) (fun u4 A4 => ?_)
    rcases Decidable.em (lsP u3 (u3 10 0 0)) with hL | hL
    · refine law_E1 F i3 (by omega) (by omega) A4 hL (fun u5 w A5 y1 y2 => ?_)
      exact law_tail F i3 (by omega) (by omega) A5 (PG_y hp3 y1) hfo3 (fun v A => k3 v w A y1 y2)
    · refine law_E2 F i3 (by omega) (by omega) A4 hL (fun u5 w A5 y1 y2 => ?_)
      exact law_tail F i3 (by omega) (by omega) A5 (PG_y hp3 y1) hfo3 (fun v A => k3 v w A y1 y2)
  have eL : ([(0, .ref b), (1, .ref (ad 7 (0))), (2, .ref (ad 41 (0))), (3, .ref (ad 42 (0))), (4, .ref (ad 43 (0))), (5, .int (J (z 10 0 0))), (6, .long (Lg (bg))), (8, .int (J (t))), (9, .int (J (xx))), (10, .int (J (z 16 0 0))), (11, .int (J (z 15 0 0))), (12, .int (J (trU z))), (13, .int (J (tcU z))), (14, .int (J (twU z))), (15, .int (J (cmB z))), (16, .int (J (clB z))), (17, .int (J (fo)))] : List (Nat × Value)) = [(0, .ref b), (1, .ref (ad 7 (0))), (2, .ref (ad 41 (0))), (3, .ref (ad 42 (0))), (4, .ref (ad 43 (0))), (5, .int (J (u3 10 0 0))), (6, .long (Lg (bg))), (8, .int (J (t))), (9, .int (J (xx))), (10, .int (J (u3 16 0 0))), (11, .int (J (u3 15 0 0))), (12, .int (J (trU u3))), (13, .int (J (tcU u3))), (14, .int (J (twU u3))), (15, .int (J (cmB u3))), (16, .int (J (clB u3))), (17, .int (J (fo)))] := by rw [q10, q16, q15, qtr, qtc, qtw, qcm, qcl]
  rw [eL]
  exact goal
set_option maxHeartbeats 1000000 in
set_option maxRecDepth 20000 in
theorem law_Z {Θ : gT} {l : Launch} {D : gD} {ad : gA} {b : Nat} {z zb : gX} {bg : Int} {u : gX} {y : gY} (F : gF Θ l D ad cL_law RL 37 20) (hB : BEG zb z) (hE : EXT z u) (hbg : bg = sDigest zb) (kk : ∀ (v : gX) (w : gY) (lv : List (Nat × Value)), gW Θ l D ad 37 2129 lv [.int (J (1))] v w) : gW Θ l D ad 37 2000 [(0, .ref b), (1, .ref (ad 7 (0))), (2, .ref (ad 41 (0))), (3, .ref (ad 42 (0))), (4, .ref (ad 43 (0))), (5, .int (J (z 10 0 0))), (6, .long (Lg (bg)))] [] u y := by
  have hT : TX z u := ⟨hE.1, hE.2.2.2.2.2⟩
  have e10 := EXT_10 hE
  have z10 : z 10 0 0 = zb 10 0 0 := by rw [hB.2.2.2.2.2.2.2.2.1 10 (by decide)]
  have hn0 := hB.2.2.1
  have hn : 1 ≤ u 10 0 0 := by omega
  have hz10 := hB.2.1.1.2.1
  have hu16 := hE.1.2.2.1.1.1
  have k1 : u 16 1 0 = 0 := ((hE.2.2.2.2.1 1 (by decide)).1).trans hB.2.2.2.2.2.2.2.2.2.1
  refine g_aload_n F dL_law_2000 rfl 1 rfl ?_
  refine g_iconst F dL_law_2001 (2) (by decide) ?_
  refine g_callV 1 F (As := [.int (J (2))]) (st := []) (c_X7_count l D ad u y (2) (by omega) (hE.1)) (gR_7) rfl mk_L_101 ki_X7_count kc_X7_count (by decide +kernel) rfl (by decide) dL_law_2002 rfl (Nat.le_of_ble_eq_true rfl) (pI_k ?_)
  refine g_topi (b := u 16 0 0) (rfl) ?_
  refine g_nmi (P := fun dd => dd = u 16 0 0) (rfl) (fun dd h_dd => ?_)
  refine g_istore F [(8, .int (J (dd))), (0, .ref b), (1, .ref (ad 7 (0))), (2, .ref (ad 41 (0))), (3, .ref (ad 42 (0))), (4, .ref (ad 43 (0))), (5, .int (J (z 10 0 0))), (6, .long (Lg (bg)))] dL_law_2005 (by decide) rfl ?_
  refine g_aload_n F dL_law_2007 rfl 2 rfl ?_
  refine g_iconst F dL_law_2008 (1) (by decide) ?_
  refine g_callV 1 F (As := [.int (J (1))]) (st := []) (c_X7_keep l D ad u y (1) (by omega) (hE.1)) (gR_7) rfl mk_L_94 ki_X7_keep kc_X7_keep (by decide +kernel) rfl (by decide) dL_law_2009 rfl (Nat.le_of_ble_eq_true rfl) (pI_k ?_)
  refine g_topi (b := dd) ((kp1_ok hT hn).1.trans h_dd.symm) ?_
  refine g_nm (P := fun u_2009 => TX z u_2009 ∧ u_2009 10 0 0 = u 10 0 0 ∧ u_2009 16 1 0 = u 16 1 0 ∧ u_2009 16 2 0 = u 16 0 0) ((kp1_ok hT hn).2) (fun u_2009 ⟨T1, a10, a1, a2⟩ => ?_)
  refine g_iload F dL_law_2012 0 rfl ?_
  refine g_icmp_ne 2063 F dL_law_2014 (by omega) (by omega) rfl (fun c_1 => ?_) (fun c_1 => ?_)
  · skip
    exact absurd rfl c_1
  · skip
    refine g_aload_n F dL_law_2017 rfl 2 rfl ?_
    refine g_iconst F dL_law_2018 (0) (by decide) ?_
    refine g_callV 1 F (As := [.int (J (0))]) (st := []) (c_X7_on l D ad u_2009 y (0) (by omega) (T1.1)) (gR_7) rfl mk_L_175 ki_X7_on kc_X7_on (by decide +kernel) rfl (by decide) dL_law_2019 rfl (Nat.le_of_ble_eq_true rfl) (pI_k ?_)
    refine g_topi (b := 0) ((on_ok T1 (k := 0) (m := 0) (by decide) (by show u_2009 16 1 0 = 0; rw [a1]; exact k1) (by decide)).1) ?_
    refine g_nm (P := fun u_2019 => TX z u_2019 ∧ u_2019 10 0 0 = u_2009 10 0 0 ∧ u_2019 16 0 0 = 0 ∧ (∀ q : Int, q ≠ 0 → u_2019 16 q 0 = u_2009 16 q 0) ∧ ((0 : Int) = 0 → trU u_2019 = 0)) ((on_ok T1 (k := 0) (m := 0) (by decide) (by show u_2009 16 1 0 = 0; rw [a1]; exact k1) (by decide)).2) (fun u_2019 ⟨T2, b10, b2, b4, b5⟩ => ?_)
    refine g_if_ne 2063 F dL_law_2022 (by decide) rfl (fun c_2 => ?_) (fun c_2 => ?_)
    · skip
      exact absurd c_2 (by decide)
    · skip
      refine g_aload_n F dL_law_2025 rfl 2 rfl ?_
      refine g_iconst F dL_law_2026 (3) (by decide) ?_
      refine g_callV 1 F (As := [.int (J (3))]) (st := []) (c_X7_count l D ad u_2019 y (3) (by omega) (T2.1)) (gR_7) rfl mk_L_101 ki_X7_count kc_X7_count (by decide +kernel) rfl (by decide) dL_law_2027 rfl (Nat.le_of_ble_eq_true rfl) (pI_k ?_)
      refine g_topi (b := 0) ((show ctU u_2019 3 = trU u_2019 from rfl).trans (b5 rfl)) ?_
      refine g_if_ne 2063 F dL_law_2030 (by decide) rfl (fun c_3 => ?_) (fun c_3 => ?_)
      · skip
        exact absurd c_3 (by decide)
      · skip
        refine g_aload_n F dL_law_2033 rfl 2 rfl ?_
        refine g_iconst F dL_law_2034 (1) (by decide) ?_
        refine g_callV 1 F (As := [.int (J (1))]) (st := []) (c_X7_on l D ad u_2019 y (1) (by omega) (T2.1)) (gR_7) rfl mk_L_175 ki_X7_on kc_X7_on (by decide +kernel) rfl (by decide) dL_law_2035 rfl (Nat.le_of_ble_eq_true rfl) (pI_k ?_)
        refine g_topi (b := dd) ((on_ok T2 (k := 1) (m := dd) (by decide) ((b4 2 (by decide)).trans (a2.trans h_dd.symm)) (by omega)).1) ?_
        refine g_nm (P := fun u_2035 => TX z u_2035 ∧ u_2035 10 0 0 = u_2019 10 0 0 ∧ u_2035 16 0 0 = dd ∧ (∀ q : Int, q ≠ 0 → u_2035 16 q 0 = u_2019 16 q 0) ∧ (dd = 0 → trU u_2035 = 0)) ((on_ok T2 (k := 1) (m := dd) (by decide) ((b4 2 (by decide)).trans (a2.trans h_dd.symm)) (by omega)).2) (fun u_2035 ⟨T3, c10, c2, _, _⟩ => ?_)
        refine g_iload F dL_law_2038 0 rfl ?_
        refine g_icmp_ne 2063 F dL_law_2040 (by omega) (by omega) rfl (fun c_4 => ?_) (fun c_4 => ?_)
        · skip
          exact absurd rfl c_4
        · skip
          refine g_aload_n F dL_law_2043 rfl 2 rfl ?_
          refine g_iconst F dL_law_2044 (0) (by decide) ?_
          refine g_callV 1 F (As := [.int (J (0))]) (st := []) (c_X7_undo l D ad u_2035 y (0) (by omega) (T3.1)) (gR_7) rfl mk_L_110 ki_X7_undo kc_X7_undo (by decide +kernel) rfl (by decide) dL_law_2045 rfl (Nat.le_of_ble_eq_true rfl) (pI_k ?_)
          refine g_topi (b := dd) ((un0_ok T3).1.trans c2) ?_
          refine g_nm (P := fun u_2045 => TX z u_2045 ∧ u_2045 15 0 0 = 8) ((un0_ok T3).2) (fun u_2045 ⟨T4, d2⟩ => ?_)
          refine g_iload F dL_law_2048 0 rfl ?_
          refine g_icmp_ne 2063 F dL_law_2050 (by omega) (by omega) rfl (fun c_5 => ?_) (fun c_5 => ?_)
          · skip
            exact absurd rfl c_5
          · skip
            refine g_aload_n F dL_law_2053 rfl 2 rfl ?_
            refine g_iconst F dL_law_2054 (1) (by decide) ?_
            refine g_callV 1 F (As := [.int (J (1))]) (st := []) (c_X7_count l D ad u_2045 y (1) (by omega) (T4.1)) (gR_7) rfl mk_L_101 ki_X7_count kc_X7_count (by decide +kernel) rfl (by decide) dL_law_2055 rfl (Nat.le_of_ble_eq_true rfl) (pI_k ?_)
            refine g_topi (b := 8) ((show ctU u_2045 1 = u_2045 15 0 0 from rfl).trans d2) ?_
            refine g_bipush F dL_law_2058 (8) (by decide) ?_
            refine g_icmp_eq 2065 F dL_law_2060 (by decide) (by decide) rfl (fun c_6 => ?_) (fun c_6 => ?_)
            · skip
              refine g_iconst F dL_law_2065 (0) (by decide) ?_
              refine g_istore F [(9, .int (J (0))), (8, .int (J (dd))), (0, .ref b), (1, .ref (ad 7 (0))), (2, .ref (ad 41 (0))), (3, .ref (ad 42 (0))), (4, .ref (ad 43 (0))), (5, .int (J (z 10 0 0))), (6, .long (Lg (bg)))] dL_law_2066 (by decide) rfl ?_
              have L2068 : ∀ (N : Nat) (u20 : gX) (r : Int), 0 ≤ r ∧ r ≤ 6 → TX z u20 → (∀ q : Int, 0 ≤ q → q < r → u20 17 q 0 = -1) → (6 - r).toNat < N → gW Θ l D ad 37 2068 [(0, .ref b), (1, .ref (ad 7 (0))), (2, .ref (ad 41 (0))), (3, .ref (ad 42 (0))), (4, .ref (ad 43 (0))), (5, .int (J (z 10 0 0))), (6, .long (Lg (bg))), (9, .int (J (r)))] [] u20 y := by
                intro N
                induction N with
                | zero => intro u20 r hrr T20 hr hFu; omega
                | succ N ih2068 =>
                  intro u20 r hrr T20 hr hFu
                  refine g_iload F dL_law_2068 7 rfl ?_
                  refine g_bipush F dL_law_2070 (6) (by decide) ?_
                  refine g_icmp_ge 2104 F dL_law_2072 (by omega) (by decide) rfl (fun c_7 => ?_) (fun c_7 => ?_)
                  · skip
                    have hr6 : ∀ q : Int, 0 ≤ q → q < 6 → u20 17 q 0 = -1 := fun q a b => hr q a (by omega)
                    refine g_aload_n F dL_law_2104 rfl 1 rfl ?_
                    refine g_iconst F dL_law_2105 (0) (by decide) ?_
                    refine g_callV 1 F (As := [.int (J (0))]) (st := []) (c_X7_court l D ad u20 y (0) (by omega) (T20.1)) (gR_7) rfl mk_L_35 ki_X7_court kc_X7_court (by decide +kernel) rfl (by decide) dL_law_2106 rfl (Nat.le_of_ble_eq_true rfl) (pG_k (fun u_2106 hG_2106 => ?_))
                    refine g_topi (b := z 10 0 0) ((cou_end (v := z) hB T20 hr6).1) ?_
                    have HC := (cou_end (v := u_2106) hB T20 hr6).2 hG_2106
                    refine g_iload F dL_law_2109 5 rfl ?_
                    refine g_icmp_ne 2128 F dL_law_2111 (by omega) (by omega) rfl (fun c_8 => ?_) (fun c_8 => ?_)
                    · skip
                      exact absurd rfl c_8
                    · skip
                      refine g_aload_n F dL_law_2114 rfl 1 rfl ?_
                      refine g_callV 0 F (As := []) (st := []) (c_X7_digest l D ad u_2106 y  (HC.1)) (gR_7) rfl mk_L_90 ki_X7_digest kc_X7_digest (by decide +kernel) rfl (by decide) dL_law_2115 rfl (Nat.le_of_ble_eq_true rfl) (pL_k ?_)
                      refine g_topl (b := bg) (HC.2.trans hbg.symm) ?_
                      refine g_lload F dL_law_2118 6 rfl ?_
                      refine g_sameLn 2128 F dL_law_2120 dL_law_2121 rfl ?_
                      refine g_iconst F dL_law_2124 (1) (by decide) ?_
                      refine g_goto F 2129 dL_law_2125 rfl ?_
                      exact kk _ _ _
                  · skip
                    refine g_aload_n F dL_law_2075 rfl 1 rfl ?_
                    refine g_iload F dL_law_2076 7 rfl ?_
                    refine g_callV 1 F (As := [.int (J (r))]) (st := []) (c_X7_tear l D ad u20 y (r) (by omega) (T20.1)) (gR_7) rfl mk_L_178 ki_X7_tear kc_X7_tear (by decide +kernel) rfl (by decide) dL_law_2078 rfl (Nat.le_of_ble_eq_true rfl) (pI_k ?_)
                    refine g_nm (P := fun u_2078 => TX z u_2078 ∧ u_2078 17 r 0 = -1 ∧ ∀ q : Int, q ≠ r → u_2078 17 q = u20 17 q) ((tea_ok T20 (r := r) ⟨by omega, by omega⟩).2) (fun u_2078 ⟨T21, r1, r2⟩ => ?_)
                    refine g_nmi (P := fun to => to = 1 ∨ to = -3) ((tea_ok T20 (r := r) ⟨by omega, by omega⟩).1) (fun to h_to => ?_)
                    refine g_istore F [(10, .int (J (to))), (0, .ref b), (1, .ref (ad 7 (0))), (2, .ref (ad 41 (0))), (3, .ref (ad 42 (0))), (4, .ref (ad 43 (0))), (5, .int (J (z 10 0 0))), (6, .long (Lg (bg))), (9, .int (J (r)))] dL_law_2081 (by decide) rfl ?_
                    refine g_iload F dL_law_2083 0 rfl ?_
                    refine g_iconst F dL_law_2085 (1) (by decide) ?_
                    refine g_icmp_eq 2098 F dL_law_2086 (by omega) (by decide) rfl (fun c_9 => ?_) (fun c_9 => ?_)
                    · skip
                      refine g_iinc F [(9, .int (J (r + 1))), (10, .int (J (to))), (0, .ref b), (1, .ref (ad 7 (0))), (2, .ref (ad 41 (0))), (3, .ref (ad 42 (0))), (4, .ref (ad 43 (0))), (5, .int (J (z 10 0 0))), (6, .long (Lg (bg)))] 8 rfl dL_law_2098 (by decide) rfl ?_
                      refine g_goto F 2068 dL_law_2101 rfl ?_
                      refine g_sub [2, 3, 4, 5, 6, 7, 8, 0] (lv' := [(0, .ref b), (1, .ref (ad 7 (0))), (2, .ref (ad 41 (0))), (3, .ref (ad 42 (0))), (4, .ref (ad 43 (0))), (5, .int (J (z 10 0 0))), (6, .long (Lg (bg))), (9, .int (J (r + 1)))]) rfl ?_
                      exact ih2068 (u_2078) (r + 1) (by omega) (T21) (tear_s r1 r2 hr) (by omega)
                    · skip
                      refine g_iload F dL_law_2089 0 rfl ?_
                      refine g_bipush F dL_law_2091 (-3) (by decide) ?_
                      refine g_icmp_eq 2098 F dL_law_2093 (by omega) (by decide) rfl (fun c_10 => ?_) (fun c_10 => ?_)
                      · skip
                        refine g_iinc F [(9, .int (J (r + 1))), (10, .int (J (to))), (0, .ref b), (1, .ref (ad 7 (0))), (2, .ref (ad 41 (0))), (3, .ref (ad 42 (0))), (4, .ref (ad 43 (0))), (5, .int (J (z 10 0 0))), (6, .long (Lg (bg)))] 8 rfl dL_law_2098 (by decide) rfl ?_
                        refine g_goto F 2068 dL_law_2101 rfl ?_
                        refine g_sub [2, 3, 4, 5, 6, 7, 8, 0] (lv' := [(0, .ref b), (1, .ref (ad 7 (0))), (2, .ref (ad 41 (0))), (3, .ref (ad 42 (0))), (4, .ref (ad 43 (0))), (5, .int (J (z 10 0 0))), (6, .long (Lg (bg))), (9, .int (J (r + 1)))]) rfl ?_
                        exact ih2068 (u_2078) (r + 1) (by omega) (T21) (tear_s r1 r2 hr) (by omega)
                      · skip
                        exfalso; omega
              refine g_sub [2, 3, 4, 5, 6, 7, 8, 0] (lv' := [(0, .ref b), (1, .ref (ad 7 (0))), (2, .ref (ad 41 (0))), (3, .ref (ad 42 (0))), (4, .ref (ad 43 (0))), (5, .int (J (z 10 0 0))), (6, .long (Lg (bg))), (9, .int (J (0)))]) rfl ?_
              exact L2068 _ (u_2045) (0) (by omega) (T4) (fun q a b => by omega) (Nat.lt_succ_self _)
            · skip
              exact absurd c_6 (by decide)
set_option maxHeartbeats 1000000 in
set_option maxRecDepth 20000 in
theorem law_L {Θ : gT} {l : Launch} {D : gD} {ad : gA} {b : Nat} {L : Nat} {sc : Int → Int} {zb : gX} {bg : Int} {z : gX} {y : gY} (F : gF Θ l D ad cL_law RL 37 20) (hX : gScr Θ b L sc) (hL : L ≤ 260) (hsc : ∀ j : Int, i32 (sc j)) (hB : BEG zb z) (hp : PG z y) (hq : PV z y) (hbg : bg = sDigest zb) (kk : ∀ (v : gX) (w : gY) (lv : List (Nat × Value)), gW Θ l D ad 37 2129 lv [.int (J (1))] v w) : gW Θ l D ad 37 57 [(0, .ref b), (1, .ref (ad 7 (0))), (2, .ref (ad 41 (0))), (3, .ref (ad 42 (0))), (4, .ref (ad 43 (0))), (5, .int (J (z 10 0 0))), (6, .long (Lg (bg)))] [] z y := by
  have z10 : z 10 0 0 = zb 10 0 0 := by rw [hB.2.2.2.2.2.2.2.2.1 10 (by decide)]
  have hn0 := hB.2.2.1
  have hn : 1 ≤ z 10 0 0 := by omega
  have hz16 : z 16 0 0 = 0 := (hB.2.2.2.2.2.2.2.2.2.2 0 (by decide)).trans hB.2.2.2.1
  refine g_iconst F dL_law_57 (0) (by decide) ?_
  refine g_istore F [(8, .int (J (0))), (0, .ref b), (1, .ref (ad 7 (0))), (2, .ref (ad 41 (0))), (3, .ref (ad 42 (0))), (4, .ref (ad 43 (0))), (5, .int (J (z 10 0 0))), (6, .long (Lg (bg)))] dL_law_58 (by decide) rfl ?_
  have L60 : ∀ (N : Nat) (u : gX) (w : gY) (t : Int), 0 ≤ t ∧ t ≤ 3 → EXT z u → PG u w → PV u w → u 16 0 0 ≤ 3 * t → (3 - t).toNat < N → gW Θ l D ad 37 60 [(0, .ref b), (1, .ref (ad 7 (0))), (2, .ref (ad 41 (0))), (3, .ref (ad 42 (0))), (4, .ref (ad 43 (0))), (5, .int (J (z 10 0 0))), (6, .long (Lg (bg))), (8, .int (J (t)))] [] u w := by
    intro N
    induction N with
    | zero => intro u w t ht hE hpu hqu h16u hFu; omega
    | succ N ih60 =>
      intro u w t ht hE hpu hqu h16u hFu
      refine g_iload F dL_law_60 7 rfl ?_
      refine g_iconst F dL_law_62 (3) (by decide) ?_
      refine g_icmp_ge 2000 F dL_law_63 (by omega) (by decide) rfl (fun c_1 => ?_) (fun c_1 => ?_)
      · skip
        refine g_sub [0, 1, 2, 3, 4, 5, 6] (lv' := [(0, .ref b), (1, .ref (ad 7 (0))), (2, .ref (ad 41 (0))), (3, .ref (ad 42 (0))), (4, .ref (ad 43 (0))), (5, .int (J (z 10 0 0))), (6, .long (Lg (bg)))]) rfl ?_
        exact law_Z F hB hE hbg kk
      · skip
        refine g_aload_n F dL_law_66 rfl 0 rfl ?_
        refine g_bipush F dL_law_67 (7) (by decide) ?_
        refine g_iload F dL_law_69 7 rfl ?_
        refine g_iadd F dL_law_71 ?_
        refine g_callSS 2 F hX (As := [.ref b, .int (J ((7) + (t)))]) (st := []) (c_L_cell l D ad u w b L sc hL hsc ((7) + (t)) (by omega)) rfl mk_L_9 ki_L_cell kc_L_cell (by decide +kernel) rfl (by decide) dL_law_72 rfl (Nat.le_of_ble_eq_true rfl) (pI_k ?_)
        refine g_nmi (P := fun xx => True) (trivial) (fun xx h_xx => ?_)
        refine g_istore F [(9, .int (J (xx))), (0, .ref b), (1, .ref (ad 7 (0))), (2, .ref (ad 41 (0))), (3, .ref (ad 42 (0))), (4, .ref (ad 43 (0))), (5, .int (J (z 10 0 0))), (6, .long (Lg (bg))), (8, .int (J (t)))] dL_law_75 (by decide) rfl ?_
        refine g_aload_n F dL_law_77 rfl 2 rfl ?_
        refine g_aload_n F dL_law_78 rfl 3 rfl ?_
        refine g_aload_n F dL_law_79 rfl 4 rfl ?_
        refine g_aload_n F dL_law_80 rfl 1 rfl ?_
        refine g_bipush F dL_law_81 (10) (by decide) ?_
        refine g_iload F dL_law_83 8 rfl ?_
        refine g_iadd F dL_law_85 ?_
        refine g_callSS 2 F hX (As := [.ref b, .int (J ((10) + (t)))]) (st := [.ref (ad 42 (0)), .ref (ad 41 (0)), .ref (ad 7 (0))]) (c_L_cell l D ad u w b L sc hL hsc ((10) + (t)) (by omega)) rfl mk_L_9 ki_L_cell kc_L_cell (by decide +kernel) rfl (by decide) dL_law_86 rfl (Nat.le_of_ble_eq_true rfl) (pI_k ?_)
        refine g_nmi (P := fun ce => True) (trivial) (fun ce h_ce => ?_)
        refine g_iconst F dL_law_89 (3) (by decide) ?_
        refine g_callS 5 F (As := [.ref (ad 7 (0)), .ref (ad 41 (0)), .ref (ad 42 (0)), .int (J (ce)), .int (J (3))]) (st := []) (c_L_stir l D ad u w (ce) (hE.1) (hpu) (hqu) (by omega) (by rw [EXT_10 hE]; exact hn)) rfl mk_L_97 ki_L_stir kc_L_stir (by decide +kernel) rfl (by decide) dL_law_90 rfl (Nat.le_of_ble_eq_true rfl) (pP_k (fun u_90 v_90 hG_90 => ?_))
        obtain ⟨s1, s2, s3, s4⟩ := hG_90
        refine g_if_ne 98 F dL_law_93 (by decide) rfl (fun c_2 => ?_) (fun c_2 => ?_)
        · skip
          refine g_sub [1, 2, 3, 4, 5, 6, 7, 8, 0] (lv' := [(0, .ref b), (1, .ref (ad 7 (0))), (2, .ref (ad 41 (0))), (3, .ref (ad 42 (0))), (4, .ref (ad 43 (0))), (5, .int (J (z 10 0 0))), (6, .long (Lg (bg))), (8, .int (J (t))), (9, .int (J (xx)))]) rfl ?_
          have E2 : EXT z u_90 := EXT_tr hE s1.1
          have q10 := EXT_10 E2
          have q16 := s1.2.1
          rw [← q10]
          refine law_turn F E2.1 (by omega) (by omega) s2 s3 (fun v9 w9 E9 h9 p9 v9q => ?_)
          rw [q10]
          have E3 : EXT z v9 := EXT_tr E2 E9
          have h16n : v9 16 0 0 ≤ 3 * (t + 1) := by omega
          refine g_iinc F [(8, .int (J (t + 1))), (0, .ref b), (1, .ref (ad 7 (0))), (2, .ref (ad 41 (0))), (3, .ref (ad 42 (0))), (4, .ref (ad 43 (0))), (5, .int (J (z 10 0 0))), (6, .long (Lg (bg))), (9, .int (J (xx)))] 7 rfl dL_law_1994 (by decide) rfl ?_
          refine g_goto F 60 dL_law_1997 rfl ?_
          refine g_sub [1, 2, 3, 4, 5, 6, 7, 0] (lv' := [(0, .ref b), (1, .ref (ad 7 (0))), (2, .ref (ad 41 (0))), (3, .ref (ad 42 (0))), (4, .ref (ad 43 (0))), (5, .int (J (z 10 0 0))), (6, .long (Lg (bg))), (8, .int (J (t + 1)))]) rfl ?_
          exact ih60 (v9) (w9) (t + 1) (by omega) (E3) (p9) (v9q) (h16n) (by omega)
          
        · skip
          exact absurd c_2 (by decide)
  refine g_sub [1, 2, 3, 4, 5, 6, 7, 0] (lv' := [(0, .ref b), (1, .ref (ad 7 (0))), (2, .ref (ad 41 (0))), (3, .ref (ad 42 (0))), (4, .ref (ad 43 (0))), (5, .int (J (z 10 0 0))), (6, .long (Lg (bg))), (8, .int (J (0)))]) rfl ?_
  exact L60 _ (z) (y) (0) (by omega) (EXT_rf hB.2.1) (hp) (hq) (by omega) (Nat.lt_succ_self _)
