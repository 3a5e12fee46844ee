theorem yU_kk {y : gY} {k j v k1 : Int} (h : k1 ≠ k) : yU y k j v k1 = y k1 := yU_k h
set_option maxRecDepth 20000 in
theorem c_L_stir (l : Launch) (D : gD) (ad : gA) (x : gX) (y : gY) (c : Int) (hV : INV x) (hp : PG x y) (hq : PV x y) (h16 : x 16 0 0 ≤ 30) (h10 : 1 ≤ x 10 0 0) : gC l D ad 7 yL_stir cL_stir 11 (some .boolean) [.ref (ad 7 (0)), .ref (ad 41 (0)), .ref (ad 42 (0)), .int (J (c)), .int (J (3))] x y (pP (.int (J (1))) (fun u9 w9 => SR x u9 3 ∧ PG u9 w9 ∧ PV u9 w9 ∧ ∀ k : Int, k ≠ 42 → w9 k = y k)) := by
  refine g_met RL rfl (by decide +kernel) [(0, .ref (ad 7 (0))), (1, .ref (ad 41 (0))), (2, .ref (ad 42 (0))), (3, .int (J (c))), (4, .int (J (3)))] rfl (Nat.le_of_ble_eq_true rfl) (fun Θ F hR => ?_)
  refine g_iconst F dL_stir_0 (1) (by decide) ?_
  refine g_istore F [(5, .int (J (1))), (0, .ref (ad 7 (0))), (1, .ref (ad 41 (0))), (2, .ref (ad 42 (0))), (3, .int (J (c))), (4, .int (J (3)))] dL_stir_1 (by decide) rfl ?_
  refine g_iconst F dL_stir_3 (0) (by decide) ?_
  refine g_istore F [(6, .int (J (0))), (5, .int (J (1))), (0, .ref (ad 7 (0))), (1, .ref (ad 41 (0))), (2, .ref (ad 42 (0))), (3, .int (J (c))), (4, .int (J (3)))] dL_stir_4 (by decide) rfl ?_
  have L6 : ∀ (N : Nat) (u : gX) (w : gY) (k : Int), 0 ≤ k ∧ k ≤ 3 → SR x u k → PG u w → PV u w → (∀ k : Int, k ≠ 42 → w k = y k) → (3 - k).toNat < N → gW Θ l D ad 11 6 [(0, .ref (ad 7 (0))), (1, .ref (ad 41 (0))), (2, .ref (ad 42 (0))), (3, .int (J (c))), (4, .int (J (3))), (5, .int (J (1))), (6, .int (J (k)))] [] u w := by
    intro N
    induction N with
    | zero => intro u w k hj hs hpu hqu hw hFu; omega
    | succ N ih6 =>
      intro u w k hj hs hpu hqu hw hFu
      have hu := hs.1.1
      have e10 := EXT_10 hs.1
      have h10u := hu.1.2.1
      have h15 := hu.1.2.2.1
      have htr := trU_r hu.1
      have hss := hs.2.1
      refine g_iload F dL_stir_6 6 rfl ?_
      refine g_iload F dL_stir_8 4 rfl ?_
      refine g_icmp_ge 236 F dL_stir_10 (by omega) (by decide) rfl (fun c_1 => ?_) (fun c_1 => ?_)
      · skip
        refine g_iload F dL_stir_236 5 rfl ?_
        exact g_zreturn F hR dL_stir_238 (by omega) (pP_z (by rfl) (by exact ⟨SR_m hs (by omega), hpu, hqu, hw⟩))
      · skip
        refine g_iload_n F dL_stir_13 rfl 3 rfl ?_
        refine g_iconst F dL_stir_14 (3) (by decide) ?_
        refine g_iload F dL_stir_15 6 rfl ?_
        refine g_imul F dL_stir_17 ?_
        refine g_ishr F dL_stir_18 (shZ c ((3) * (k))) (J_sh c ((3) * (k))) ?_
        refine g_bipush F dL_stir_19 (7) (by decide) ?_
        refine g_iload F dL_stir_21 6 rfl ?_
        refine g_imul F dL_stir_23 ?_
        refine g_iadd F dL_stir_24 ?_
        refine g_nmi (P := fun yy => True) (trivial) (fun yy h_yy => ?_)
        refine g_istore F [(7, .int (J (yy))), (0, .ref (ad 7 (0))), (1, .ref (ad 41 (0))), (2, .ref (ad 42 (0))), (3, .int (J (c))), (4, .int (J (3))), (5, .int (J (1))), (6, .int (J (k)))] dL_stir_25 (by decide) rfl ?_
        refine g_iload F dL_stir_27 0 rfl ?_
        refine g_iconst F dL_stir_29 (2) (by decide) ?_
        refine g_ishr F dL_stir_30 (shZ yy 2) (J_sh yy 2) ?_
        refine g_aload_n F dL_stir_31 rfl 2 rfl ?_
        refine g_iconst F dL_stir_32 (0) (by decide) ?_
        refine ga_41 F (by decide) dL_stir_33 ?_
        refine g_topi (b := u 10 0 0) (hpu.1) ?_
        refine g_callS 2 F (As := [.int (J (shZ yy 2)), .int (J (u 10 0 0))]) (st := []) (c_L_low l D ad u w (shZ yy 2) (u 10 0 0) (by omega)) rfl mk_L_15 ki_L_low kc_L_low (by decide +kernel) rfl (by decide) dL_stir_34 rfl (Nat.le_of_ble_eq_true rfl) (pI_k ?_)
        refine g_nmi (P := fun i => 0 ≤ i ∧ i < u 10 0 0) (lwZ_r (by omega)) (fun i h_i => ?_)
        have hm := hu.1.2.2.2 i h_i.1 h_i.2
        have rv := vU_r u i (u 15 0 0)
        have r3 := anZ_r (a := yy) (m := 3) (by decide)
        refine g_istore F [(8, .int (J (i))), (7, .int (J (yy))), (0, .ref (ad 7 (0))), (1, .ref (ad 41 (0))), (2, .ref (ad 42 (0))), (3, .int (J (c))), (4, .int (J (3))), (5, .int (J (1))), (6, .int (J (k)))] dL_stir_37 (by decide) rfl ?_
        refine g_iload F dL_stir_39 1 rfl ?_
        refine g_iconst F dL_stir_41 (5) (by decide) ?_
        refine g_ishr F dL_stir_42 (shZ yy 5) (J_sh yy 5) ?_
        refine g_bipush F dL_stir_43 (11) (by decide) ?_
        refine g_callS 2 F (As := [.int (J (shZ yy 5)), .int (J (11))]) (st := []) (c_L_low l D ad u w (shZ yy 5) (11) (by omega)) rfl mk_L_15 ki_L_low kc_L_low (by decide +kernel) rfl (by decide) dL_stir_45 rfl (Nat.le_of_ble_eq_true rfl) (pI_k ?_)
        refine g_nmi (P := fun q => 0 ≤ q ∧ q < 11) (lwZ_r (by decide)) (fun q h_q => ?_)
        refine g_iconst F dL_stir_48 (5) (by decide) ?_
        refine g_isub F dL_stir_49 ?_
        refine g_istore F [(9, .int (J ((q) - (5)))), (8, .int (J (i))), (7, .int (J (yy))), (0, .ref (ad 7 (0))), (1, .ref (ad 41 (0))), (2, .ref (ad 42 (0))), (3, .int (J (c))), (4, .int (J (3))), (5, .int (J (1))), (6, .int (J (k)))] dL_stir_50 (by decide) rfl ?_
        refine g_iload F dL_stir_52 2 rfl ?_
        refine g_iconst F dL_stir_54 (3) (by decide) ?_
        refine g_iand F dL_stir_55 (anZ yy 3) (J_an yy 3) ?_
        refine g_if_ne 120 F dL_stir_56 (by omega) rfl (fun c_2 => ?_) (fun c_2 => ?_)
        · skip
          refine g_iload F dL_stir_120 2 rfl ?_
          refine g_iconst F dL_stir_122 (3) (by decide) ?_
          refine g_iand F dL_stir_123 (anZ yy 3) (J_an yy 3) ?_
          refine g_iconst F dL_stir_124 (1) (by decide) ?_
          refine g_icmp_ne 189 F dL_stir_125 (by omega) (by decide) rfl (fun c_3 => ?_) (fun c_3 => ?_)
          · skip
            refine g_iload F dL_stir_189 0 rfl ?_
            refine g_if_eq 230 F dL_stir_191 (by omega) rfl (fun c_4 => ?_) (fun c_4 => ?_)
            · skip
              have nS := SR_m hs (show k ≤ k + 1 by omega)
              have nG := hpu
              have nV := hqu
              have nW := hw
              refine g_iinc F [(6, .int (J (k + 1))), (9, .int (J ((q) - (5)))), (8, .int (J (i))), (7, .int (J (yy))), (0, .ref (ad 7 (0))), (1, .ref (ad 41 (0))), (2, .ref (ad 42 (0))), (3, .int (J (c))), (4, .int (J (3))), (5, .int (J (1)))] 9 rfl dL_stir_230 (by decide) rfl ?_
              refine g_goto F 6 dL_stir_233 rfl ?_
              refine g_sub [4, 5, 6, 7, 8, 9, 0] (lv' := [(0, .ref (ad 7 (0))), (1, .ref (ad 41 (0))), (2, .ref (ad 42 (0))), (3, .int (J (c))), (4, .int (J (3))), (5, .int (J (1))), (6, .int (J (k + 1)))]) rfl ?_
              exact ih6 (u) (w) (k + 1) (by omega) (nS) (nG) (nV) (nW) (by omega)
            · skip
              have rk := kH_r (u 15 0 0 + (q - 5))
              refine g_aload_n F dL_stir_194 rfl 5 rfl ?_
              refine g_iconst F dL_stir_195 (0) (by decide) ?_
              refine g_aload_n F dL_stir_196 rfl 5 rfl ?_
              refine g_iconst F dL_stir_197 (0) (by decide) ?_
              refine ga_42 F (by decide) dL_stir_198 ?_
              refine g_topi (b := u 15 0 0) (hqu.1) ?_
              refine g_iload F dL_stir_199 0 rfl ?_
              refine g_iadd F dL_stir_201 ?_
              refine g_callS 1 F (As := [.int (J ((u 15 0 0) + ((q) - (5))))]) (st := [.int (J (0)), .ref (ad 42 (0))]) (c_L_cut l D ad u w ((u 15 0 0) + ((q) - (5))) (by omega)) rfl mk_L_64 ki_L_cut kc_L_cut (by decide +kernel) rfl (by decide) dL_stir_202 rfl (Nat.le_of_ble_eq_true rfl) (pI_k ?_)
              refine gs_42 F (by decide) dL_stir_205 ?_
              refine g_iload F dL_stir_206 8 rfl ?_
              refine g_if_eq 227 F dL_stir_208 (by decide) rfl (fun c_5 => ?_) (fun c_5 => ?_)
              · skip
                exact absurd c_5 (by decide)
              · skip
                refine g_aload_n F dL_stir_211 rfl 3 rfl ?_
                refine g_iload F dL_stir_212 0 rfl ?_
                refine g_callV 1 F (As := [.int (J ((q) - (5)))]) (st := []) (c_X7_heat l D ad u (yU w 42 (0) (kH ((u 15 0 0) + ((q) - (5))))) ((q) - (5)) (by omega) (hu)) (gR_7) rfl mk_L_80 ki_X7_heat kc_X7_heat (by decide +kernel) rfl (by decide) dL_stir_214 rfl (Nat.le_of_ble_eq_true rfl) (pI_k ?_)
                refine g_topi (b := kH (u 15 0 0 + (q - 5))) ((hea_ok hu (by omega) (by omega) (by omega) (by omega)).1) ?_
                refine g_nm (P := fun u1 => STP u (perM u 0 (q - 5)) u1) ((hea_ok hu (by omega) (by omega) (by omega) (by omega)).2) (fun u1 s1 => ?_)
                refine g_aload_n F dL_stir_217 rfl 5 rfl ?_
                refine g_iconst F dL_stir_218 (0) (by decide) ?_
                refine ga_42 F (by decide) dL_stir_219 ?_
                refine g_topi (b := kH ((u 15 0 0) + ((q) - (5)))) (by simp [yU]) ?_
                refine g_icmp_ne 227 F dL_stir_220 (by omega) (by omega) rfl (fun c_6 => ?_) (fun c_6 => ?_)
                · skip
                  exact absurd rfl c_6
                · skip
                  have nS := SR_s hs s1
                  have nG : PG u1 (yU w 42 (0) (kH ((u 15 0 0) + ((q) - (5))))) := PG_cS (show PG u (yU w 42 (0) (kH ((u 15 0 0) + ((q) - (5))))) from PG_y hpu (yU_k (by decide))) s1.1.2.1
                  have nV : PV u1 (yU w 42 (0) (kH ((u 15 0 0) + ((q) - (5))))) := PV_cE (PV_hea hqu (by omega)) (by rw [per_10]; exact s1.2.1)
                  have nW : ∀ k : Int, k ≠ 42 → (yU w 42 (0) (kH ((u 15 0 0) + ((q) - (5))))) k = y k := fun k hk => (yU_kk hk).trans (hw k hk)
                  refine g_iconst F dL_stir_223 (1) (by decide) ?_
                  refine g_goto F 228 dL_stir_224 rfl ?_
                  refine g_istore F [(5, .int (J (1))), (9, .int (J ((q) - (5)))), (8, .int (J (i))), (7, .int (J (yy))), (0, .ref (ad 7 (0))), (1, .ref (ad 41 (0))), (2, .ref (ad 42 (0))), (3, .int (J (c))), (4, .int (J (3))), (6, .int (J (k)))] dL_stir_228 (by decide) rfl ?_
                  refine g_iinc F [(6, .int (J (k + 1))), (5, .int (J (1))), (9, .int (J ((q) - (5)))), (8, .int (J (i))), (7, .int (J (yy))), (0, .ref (ad 7 (0))), (1, .ref (ad 41 (0))), (2, .ref (ad 42 (0))), (3, .int (J (c))), (4, .int (J (3)))] 9 rfl dL_stir_230 (by decide) rfl ?_
                  refine g_goto F 6 dL_stir_233 rfl ?_
                  refine g_sub [5, 6, 7, 8, 9, 1, 0] (lv' := [(0, .ref (ad 7 (0))), (1, .ref (ad 41 (0))), (2, .ref (ad 42 (0))), (3, .int (J (c))), (4, .int (J (3))), (5, .int (J (1))), (6, .int (J (k + 1)))]) rfl ?_
                  exact ih6 (u1) ((yU w 42 (0) (kH ((u 15 0 0) + ((q) - (5)))))) (k + 1) (by omega) (nS) (nG) (nV) (nW) (by omega)
          · skip
            refine g_aload_n F dL_stir_128 rfl 5 rfl ?_
            refine g_iconst F dL_stir_129 (1) (by decide) ?_
            refine ga_42 F (by decide) dL_stir_130 ?_
            refine g_topi (b := trU u) (hqu.2.1) ?_
            refine g_iload F dL_stir_131 1 rfl ?_
            refine g_ishr F dL_stir_133 (trU u / p2 i) (J_shr ⟨htr.1, by omega⟩ ⟨by omega, by omega⟩) ?_
            refine g_iconst F dL_stir_134 (1) (by decide) ?_
            refine g_iand F dL_stir_135 (trU u / p2 i % 2) (J_bt ⟨htr.1, by omega⟩ ⟨by omega, by omega⟩) ?_
            refine g_topi (b := if u 6 i 0 ≠ -9 then 1 else 0) (bit_of h_i.1 h_i.2) ?_
            refine g_ifb_ne 189 F dL_stir_136 rfl (fun c_7 => ?_) (fun c_7 => ?_)
            · skip
              refine g_iload F dL_stir_189 0 rfl ?_
              refine g_if_eq 230 F dL_stir_191 (by omega) rfl (fun c_8 => ?_) (fun c_8 => ?_)
              · skip
                have nS := SR_m hs (show k ≤ k + 1 by omega)
                have nG := hpu
                have nV := hqu
                have nW := hw
                refine g_iinc F [(6, .int (J (k + 1))), (9, .int (J ((q) - (5)))), (8, .int (J (i))), (7, .int (J (yy))), (0, .ref (ad 7 (0))), (1, .ref (ad 41 (0))), (2, .ref (ad 42 (0))), (3, .int (J (c))), (4, .int (J (3))), (5, .int (J (1)))] 9 rfl dL_stir_230 (by decide) rfl ?_
                refine g_goto F 6 dL_stir_233 rfl ?_
                refine g_sub [4, 5, 6, 7, 8, 9, 0] (lv' := [(0, .ref (ad 7 (0))), (1, .ref (ad 41 (0))), (2, .ref (ad 42 (0))), (3, .int (J (c))), (4, .int (J (3))), (5, .int (J (1))), (6, .int (J (k + 1)))]) rfl ?_
                exact ih6 (u) (w) (k + 1) (by omega) (nS) (nG) (nV) (nW) (by omega)
              · skip
                have rk := kH_r (u 15 0 0 + (q - 5))
                refine g_aload_n F dL_stir_194 rfl 5 rfl ?_
                refine g_iconst F dL_stir_195 (0) (by decide) ?_
                refine g_aload_n F dL_stir_196 rfl 5 rfl ?_
                refine g_iconst F dL_stir_197 (0) (by decide) ?_
                refine ga_42 F (by decide) dL_stir_198 ?_
                refine g_topi (b := u 15 0 0) (hqu.1) ?_
                refine g_iload F dL_stir_199 0 rfl ?_
                refine g_iadd F dL_stir_201 ?_
                refine g_callS 1 F (As := [.int (J ((u 15 0 0) + ((q) - (5))))]) (st := [.int (J (0)), .ref (ad 42 (0))]) (c_L_cut l D ad u w ((u 15 0 0) + ((q) - (5))) (by omega)) rfl mk_L_64 ki_L_cut kc_L_cut (by decide +kernel) rfl (by decide) dL_stir_202 rfl (Nat.le_of_ble_eq_true rfl) (pI_k ?_)
                refine gs_42 F (by decide) dL_stir_205 ?_
                refine g_iload F dL_stir_206 8 rfl ?_
                refine g_if_eq 227 F dL_stir_208 (by decide) rfl (fun c_9 => ?_) (fun c_9 => ?_)
                · skip
                  exact absurd c_9 (by decide)
                · skip
                  refine g_aload_n F dL_stir_211 rfl 3 rfl ?_
                  refine g_iload F dL_stir_212 0 rfl ?_
                  refine g_callV 1 F (As := [.int (J ((q) - (5)))]) (st := []) (c_X7_heat l D ad u (yU w 42 (0) (kH ((u 15 0 0) + ((q) - (5))))) ((q) - (5)) (by omega) (hu)) (gR_7) rfl mk_L_80 ki_X7_heat kc_X7_heat (by decide +kernel) rfl (by decide) dL_stir_214 rfl (Nat.le_of_ble_eq_true rfl) (pI_k ?_)
                  refine g_topi (b := kH (u 15 0 0 + (q - 5))) ((hea_ok hu (by omega) (by omega) (by omega) (by omega)).1) ?_
                  refine g_nm (P := fun u1 => STP u (perM u 0 (q - 5)) u1) ((hea_ok hu (by omega) (by omega) (by omega) (by omega)).2) (fun u1 s1 => ?_)
                  refine g_aload_n F dL_stir_217 rfl 5 rfl ?_
                  refine g_iconst F dL_stir_218 (0) (by decide) ?_
                  refine ga_42 F (by decide) dL_stir_219 ?_
                  refine g_topi (b := kH ((u 15 0 0) + ((q) - (5)))) (by simp [yU]) ?_
                  refine g_icmp_ne 227 F dL_stir_220 (by omega) (by omega) rfl (fun c_10 => ?_) (fun c_10 => ?_)
                  · skip
                    exact absurd rfl c_10
                  · skip
                    have nS := SR_s hs s1
                    have nG : PG u1 (yU w 42 (0) (kH ((u 15 0 0) + ((q) - (5))))) := PG_cS (show PG u (yU w 42 (0) (kH ((u 15 0 0) + ((q) - (5))))) from PG_y hpu (yU_k (by decide))) s1.1.2.1
                    have nV : PV u1 (yU w 42 (0) (kH ((u 15 0 0) + ((q) - (5))))) := PV_cE (PV_hea hqu (by omega)) (by rw [per_10]; exact s1.2.1)
                    have nW : ∀ k : Int, k ≠ 42 → (yU w 42 (0) (kH ((u 15 0 0) + ((q) - (5))))) k = y k := fun k hk => (yU_kk hk).trans (hw k hk)
                    refine g_iconst F dL_stir_223 (1) (by decide) ?_
                    refine g_goto F 228 dL_stir_224 rfl ?_
                    refine g_istore F [(5, .int (J (1))), (9, .int (J ((q) - (5)))), (8, .int (J (i))), (7, .int (J (yy))), (0, .ref (ad 7 (0))), (1, .ref (ad 41 (0))), (2, .ref (ad 42 (0))), (3, .int (J (c))), (4, .int (J (3))), (6, .int (J (k)))] dL_stir_228 (by decide) rfl ?_
                    refine g_iinc F [(6, .int (J (k + 1))), (5, .int (J (1))), (9, .int (J ((q) - (5)))), (8, .int (J (i))), (7, .int (J (yy))), (0, .ref (ad 7 (0))), (1, .ref (ad 41 (0))), (2, .ref (ad 42 (0))), (3, .int (J (c))), (4, .int (J (3)))] 9 rfl dL_stir_230 (by decide) rfl ?_
                    refine g_goto F 6 dL_stir_233 rfl ?_
                    refine g_sub [5, 6, 7, 8, 9, 1, 0] (lv' := [(0, .ref (ad 7 (0))), (1, .ref (ad 41 (0))), (2, .ref (ad 42 (0))), (3, .int (J (c))), (4, .int (J (3))), (5, .int (J (1))), (6, .int (J (k + 1)))]) rfl ?_
                    exact ih6 (u1) ((yU w 42 (0) (kH ((u 15 0 0) + ((q) - (5)))))) (k + 1) (by omega) (nS) (nG) (nV) (nW) (by omega)
            · skip
              have h6 : u 6 i 0 = -9 := by omega
              refine g_aload_n F dL_stir_139 rfl 5 rfl ?_
              refine g_iconst F dL_stir_140 (4) (by decide) ?_
              refine g_iload F dL_stir_141 1 rfl ?_
              refine g_iadd F dL_stir_143 ?_
              refine ga_42 F (by omega) dL_stir_144 ?_
              refine g_topi (b := u 5 i 0) (pv_s hqu h_i.1 h_i.2) ?_
              refine g_iconst F dL_stir_145 (3) (by decide) ?_
              refine g_icmp_ge 189 F dL_stir_146 (by omega) (by decide) rfl (fun c_11 => ?_) (fun c_11 => ?_)
              · skip
                refine g_iload F dL_stir_189 0 rfl ?_
                refine g_if_eq 230 F dL_stir_191 (by omega) rfl (fun c_12 => ?_) (fun c_12 => ?_)
                · skip
                  have nS := SR_m hs (show k ≤ k + 1 by omega)
                  have nG := hpu
                  have nV := hqu
                  have nW := hw
                  refine g_iinc F [(6, .int (J (k + 1))), (9, .int (J ((q) - (5)))), (8, .int (J (i))), (7, .int (J (yy))), (0, .ref (ad 7 (0))), (1, .ref (ad 41 (0))), (2, .ref (ad 42 (0))), (3, .int (J (c))), (4, .int (J (3))), (5, .int (J (1)))] 9 rfl dL_stir_230 (by decide) rfl ?_
                  refine g_goto F 6 dL_stir_233 rfl ?_
                  refine g_sub [4, 5, 6, 7, 8, 9, 0] (lv' := [(0, .ref (ad 7 (0))), (1, .ref (ad 41 (0))), (2, .ref (ad 42 (0))), (3, .int (J (c))), (4, .int (J (3))), (5, .int (J (1))), (6, .int (J (k + 1)))]) rfl ?_
                  exact ih6 (u) (w) (k + 1) (by omega) (nS) (nG) (nV) (nW) (by omega)
                · skip
                  have rk := kH_r (u 15 0 0 + (q - 5))
                  refine g_aload_n F dL_stir_194 rfl 5 rfl ?_
                  refine g_iconst F dL_stir_195 (0) (by decide) ?_
                  refine g_aload_n F dL_stir_196 rfl 5 rfl ?_
                  refine g_iconst F dL_stir_197 (0) (by decide) ?_
                  refine ga_42 F (by decide) dL_stir_198 ?_
                  refine g_topi (b := u 15 0 0) (hqu.1) ?_
                  refine g_iload F dL_stir_199 0 rfl ?_
                  refine g_iadd F dL_stir_201 ?_
                  refine g_callS 1 F (As := [.int (J ((u 15 0 0) + ((q) - (5))))]) (st := [.int (J (0)), .ref (ad 42 (0))]) (c_L_cut l D ad u w ((u 15 0 0) + ((q) - (5))) (by omega)) rfl mk_L_64 ki_L_cut kc_L_cut (by decide +kernel) rfl (by decide) dL_stir_202 rfl (Nat.le_of_ble_eq_true rfl) (pI_k ?_)
                  refine gs_42 F (by decide) dL_stir_205 ?_
                  refine g_iload F dL_stir_206 8 rfl ?_
                  refine g_if_eq 227 F dL_stir_208 (by decide) rfl (fun c_13 => ?_) (fun c_13 => ?_)
                  · skip
                    exact absurd c_13 (by decide)
                  · skip
                    refine g_aload_n F dL_stir_211 rfl 3 rfl ?_
                    refine g_iload F dL_stir_212 0 rfl ?_
                    refine g_callV 1 F (As := [.int (J ((q) - (5)))]) (st := []) (c_X7_heat l D ad u (yU w 42 (0) (kH ((u 15 0 0) + ((q) - (5))))) ((q) - (5)) (by omega) (hu)) (gR_7) rfl mk_L_80 ki_X7_heat kc_X7_heat (by decide +kernel) rfl (by decide) dL_stir_214 rfl (Nat.le_of_ble_eq_true rfl) (pI_k ?_)
                    refine g_topi (b := kH (u 15 0 0 + (q - 5))) ((hea_ok hu (by omega) (by omega) (by omega) (by omega)).1) ?_
                    refine g_nm (P := fun u1 => STP u (perM u 0 (q - 5)) u1) ((hea_ok hu (by omega) (by omega) (by omega) (by omega)).2) (fun u1 s1 => ?_)
                    refine g_aload_n F dL_stir_217 rfl 5 rfl ?_
                    refine g_iconst F dL_stir_218 (0) (by decide) ?_
                    refine ga_42 F (by decide) dL_stir_219 ?_
                    refine g_topi (b := kH ((u 15 0 0) + ((q) - (5)))) (by simp [yU]) ?_
                    refine g_icmp_ne 227 F dL_stir_220 (by omega) (by omega) rfl (fun c_14 => ?_) (fun c_14 => ?_)
                    · skip
                      exact absurd rfl c_14
                    · skip
                      have nS := SR_s hs s1
                      have nG : PG u1 (yU w 42 (0) (kH ((u 15 0 0) + ((q) - (5))))) := PG_cS (show PG u (yU w 42 (0) (kH ((u 15 0 0) + ((q) - (5))))) from PG_y hpu (yU_k (by decide))) s1.1.2.1
                      have nV : PV u1 (yU w 42 (0) (kH ((u 15 0 0) + ((q) - (5))))) := PV_cE (PV_hea hqu (by omega)) (by rw [per_10]; exact s1.2.1)
                      have nW : ∀ k : Int, k ≠ 42 → (yU w 42 (0) (kH ((u 15 0 0) + ((q) - (5))))) k = y k := fun k hk => (yU_kk hk).trans (hw k hk)
                      refine g_iconst F dL_stir_223 (1) (by decide) ?_
                      refine g_goto F 228 dL_stir_224 rfl ?_
                      refine g_istore F [(5, .int (J (1))), (9, .int (J ((q) - (5)))), (8, .int (J (i))), (7, .int (J (yy))), (0, .ref (ad 7 (0))), (1, .ref (ad 41 (0))), (2, .ref (ad 42 (0))), (3, .int (J (c))), (4, .int (J (3))), (6, .int (J (k)))] dL_stir_228 (by decide) rfl ?_
                      refine g_iinc F [(6, .int (J (k + 1))), (5, .int (J (1))), (9, .int (J ((q) - (5)))), (8, .int (J (i))), (7, .int (J (yy))), (0, .ref (ad 7 (0))), (1, .ref (ad 41 (0))), (2, .ref (ad 42 (0))), (3, .int (J (c))), (4, .int (J (3)))] 9 rfl dL_stir_230 (by decide) rfl ?_
                      refine g_goto F 6 dL_stir_233 rfl ?_
                      refine g_sub [5, 6, 7, 8, 9, 1, 0] (lv' := [(0, .ref (ad 7 (0))), (1, .ref (ad 41 (0))), (2, .ref (ad 42 (0))), (3, .int (J (c))), (4, .int (J (3))), (5, .int (J (1))), (6, .int (J (k + 1)))]) rfl ?_
                      exact ih6 (u1) ((yU w 42 (0) (kH ((u 15 0 0) + ((q) - (5)))))) (k + 1) (by omega) (nS) (nG) (nV) (nW) (by omega)
              · skip
                refine g_aload_n F dL_stir_149 rfl 5 rfl ?_
                refine g_iconst F dL_stir_150 (4) (by decide) ?_
                refine g_iload F dL_stir_151 1 rfl ?_
                refine g_iadd F dL_stir_153 ?_
                refine g_dup2 F dL_stir_154 rfl rfl ?_
                refine ga_42 F (by omega) dL_stir_155 ?_
                refine g_topi (b := u 5 i 0) (pv_s hqu h_i.1 h_i.2) ?_
                refine g_iconst F dL_stir_156 (1) (by decide) ?_
                refine g_iadd F dL_stir_157 ?_
                refine gs_42 F (by omega) dL_stir_158 ?_
                refine g_iload F dL_stir_159 8 rfl ?_
                refine g_if_eq 183 F dL_stir_161 (by decide) rfl (fun c_15 => ?_) (fun c_15 => ?_)
                · skip
                  exact absurd c_15 (by decide)
                · skip
                  refine g_aload_n F dL_stir_164 rfl 3 rfl ?_
                  refine g_iload F dL_stir_165 1 rfl ?_
                  refine g_callV 1 F (As := [.int (J (i))]) (st := []) (c_X7_salve l D ad u (yU w 42 ((4) + (i)) ((u 5 i 0) + (1))) (i) (by omega) (hu)) (gR_7) rfl mk_L_77 ki_X7_salve kc_X7_salve (by decide +kernel) rfl (by decide) dL_stir_167 rfl (Nat.le_of_ble_eq_true rfl) (pI_k ?_)
                  refine g_topi (b := u 5 i 0 + 1) ((sal_ok hu (by omega) h_i.1 h_i.2 h6 (by omega)).1) ?_
                  refine g_nm (P := fun u1 => STP u (perM u 1 i) u1) ((sal_ok hu (by omega) h_i.1 h_i.2 h6 (by omega)).2) (fun u1 s1 => ?_)
                  refine g_aload_n F dL_stir_170 rfl 5 rfl ?_
                  refine g_iconst F dL_stir_171 (4) (by decide) ?_
                  refine g_iload F dL_stir_172 1 rfl ?_
                  refine g_iadd F dL_stir_174 ?_
                  refine ga_42 F (by omega) dL_stir_175 ?_
                  refine g_topi (b := (u 5 i 0) + (1)) (by simp [yU]) ?_
                  refine g_icmp_ne 183 F dL_stir_176 (by omega) (by omega) rfl (fun c_16 => ?_) (fun c_16 => ?_)
                  · skip
                    exact absurd rfl c_16
                  · skip
                    have nS := SR_s hs s1
                    have nG : PG u1 (yU w 42 ((4) + (i)) ((u 5 i 0) + (1))) := PG_cS (show PG u (yU w 42 ((4) + (i)) ((u 5 i 0) + (1))) from PG_y hpu (yU_k (by decide))) s1.1.2.1
                    have nV : PV u1 (yU w 42 ((4) + (i)) ((u 5 i 0) + (1))) := PV_cE (PV_sal hqu h_i.1 h_i.2 h10u.2) (by rw [per_10]; exact s1.2.1)
                    have nW : ∀ k : Int, k ≠ 42 → (yU w 42 ((4) + (i)) ((u 5 i 0) + (1))) k = y k := fun k hk => (yU_kk hk).trans (hw k hk)
                    refine g_iconst F dL_stir_179 (1) (by decide) ?_
                    refine g_goto F 184 dL_stir_180 rfl ?_
                    refine g_istore F [(5, .int (J (1))), (9, .int (J ((q) - (5)))), (8, .int (J (i))), (7, .int (J (yy))), (0, .ref (ad 7 (0))), (1, .ref (ad 41 (0))), (2, .ref (ad 42 (0))), (3, .int (J (c))), (4, .int (J (3))), (6, .int (J (k)))] dL_stir_184 (by decide) rfl ?_
                    refine g_goto F 230 dL_stir_186 rfl ?_
                    refine g_iinc F [(6, .int (J (k + 1))), (5, .int (J (1))), (9, .int (J ((q) - (5)))), (8, .int (J (i))), (7, .int (J (yy))), (0, .ref (ad 7 (0))), (1, .ref (ad 41 (0))), (2, .ref (ad 42 (0))), (3, .int (J (c))), (4, .int (J (3)))] 9 rfl dL_stir_230 (by decide) rfl ?_
                    refine g_goto F 6 dL_stir_233 rfl ?_
                    refine g_sub [5, 6, 7, 8, 9, 1, 0] (lv' := [(0, .ref (ad 7 (0))), (1, .ref (ad 41 (0))), (2, .ref (ad 42 (0))), (3, .int (J (c))), (4, .int (J (3))), (5, .int (J (1))), (6, .int (J (k + 1)))]) rfl ?_
                    exact ih6 (u1) ((yU w 42 ((4) + (i)) ((u 5 i 0) + (1)))) (k + 1) (by omega) (nS) (nG) (nV) (nW) (by omega)
        · skip
          refine g_aload_n F dL_stir_59 rfl 5 rfl ?_
          refine g_iconst F dL_stir_60 (1) (by decide) ?_
          refine ga_42 F (by decide) dL_stir_61 ?_
          refine g_topi (b := trU u) (hqu.2.1) ?_
          refine g_iload F dL_stir_62 1 rfl ?_
          refine g_ishr F dL_stir_64 (trU u / p2 i) (J_shr ⟨htr.1, by omega⟩ ⟨by omega, by omega⟩) ?_
          refine g_iconst F dL_stir_65 (1) (by decide) ?_
          refine g_iand F dL_stir_66 (trU u / p2 i % 2) (J_bt ⟨htr.1, by omega⟩ ⟨by omega, by omega⟩) ?_
          refine g_topi (b := if u 6 i 0 ≠ -9 then 1 else 0) (bit_of h_i.1 h_i.2) ?_
          refine g_ifb_ne 120 F dL_stir_67 rfl (fun c_17 => ?_) (fun c_17 => ?_)
          · skip
            refine g_iload F dL_stir_120 2 rfl ?_
            refine g_iconst F dL_stir_122 (3) (by decide) ?_
            refine g_iand F dL_stir_123 (anZ yy 3) (J_an yy 3) ?_
            refine g_iconst F dL_stir_124 (1) (by decide) ?_
            refine g_icmp_ne 189 F dL_stir_125 (by omega) (by decide) rfl (fun c_18 => ?_) (fun c_18 => ?_)
            · skip
              refine g_iload F dL_stir_189 0 rfl ?_
              refine g_if_eq 230 F dL_stir_191 (by omega) rfl (fun c_19 => ?_) (fun c_19 => ?_)
              · skip
                have nS := SR_m hs (show k ≤ k + 1 by omega)
                have nG := hpu
                have nV := hqu
                have nW := hw
                refine g_iinc F [(6, .int (J (k + 1))), (9, .int (J ((q) - (5)))), (8, .int (J (i))), (7, .int (J (yy))), (0, .ref (ad 7 (0))), (1, .ref (ad 41 (0))), (2, .ref (ad 42 (0))), (3, .int (J (c))), (4, .int (J (3))), (5, .int (J (1)))] 9 rfl dL_stir_230 (by decide) rfl ?_
                refine g_goto F 6 dL_stir_233 rfl ?_
                refine g_sub [4, 5, 6, 7, 8, 9, 0] (lv' := [(0, .ref (ad 7 (0))), (1, .ref (ad 41 (0))), (2, .ref (ad 42 (0))), (3, .int (J (c))), (4, .int (J (3))), (5, .int (J (1))), (6, .int (J (k + 1)))]) rfl ?_
                exact ih6 (u) (w) (k + 1) (by omega) (nS) (nG) (nV) (nW) (by omega)
              · skip
                have rk := kH_r (u 15 0 0 + (q - 5))
                refine g_aload_n F dL_stir_194 rfl 5 rfl ?_
                refine g_iconst F dL_stir_195 (0) (by decide) ?_
                refine g_aload_n F dL_stir_196 rfl 5 rfl ?_
                refine g_iconst F dL_stir_197 (0) (by decide) ?_
                refine ga_42 F (by decide) dL_stir_198 ?_
                refine g_topi (b := u 15 0 0) (hqu.1) ?_
                refine g_iload F dL_stir_199 0 rfl ?_
                refine g_iadd F dL_stir_201 ?_
                refine g_callS 1 F (As := [.int (J ((u 15 0 0) + ((q) - (5))))]) (st := [.int (J (0)), .ref (ad 42 (0))]) (c_L_cut l D ad u w ((u 15 0 0) + ((q) - (5))) (by omega)) rfl mk_L_64 ki_L_cut kc_L_cut (by decide +kernel) rfl (by decide) dL_stir_202 rfl (Nat.le_of_ble_eq_true rfl) (pI_k ?_)
                refine gs_42 F (by decide) dL_stir_205 ?_
                refine g_iload F dL_stir_206 8 rfl ?_
                refine g_if_eq 227 F dL_stir_208 (by decide) rfl (fun c_20 => ?_) (fun c_20 => ?_)
                · skip
                  exact absurd c_20 (by decide)
                · skip
                  refine g_aload_n F dL_stir_211 rfl 3 rfl ?_
                  refine g_iload F dL_stir_212 0 rfl ?_
                  refine g_callV 1 F (As := [.int (J ((q) - (5)))]) (st := []) (c_X7_heat l D ad u (yU w 42 (0) (kH ((u 15 0 0) + ((q) - (5))))) ((q) - (5)) (by omega) (hu)) (gR_7) rfl mk_L_80 ki_X7_heat kc_X7_heat (by decide +kernel) rfl (by decide) dL_stir_214 rfl (Nat.le_of_ble_eq_true rfl) (pI_k ?_)
                  refine g_topi (b := kH (u 15 0 0 + (q - 5))) ((hea_ok hu (by omega) (by omega) (by omega) (by omega)).1) ?_
                  refine g_nm (P := fun u1 => STP u (perM u 0 (q - 5)) u1) ((hea_ok hu (by omega) (by omega) (by omega) (by omega)).2) (fun u1 s1 => ?_)
                  refine g_aload_n F dL_stir_217 rfl 5 rfl ?_
                  refine g_iconst F dL_stir_218 (0) (by decide) ?_
                  refine ga_42 F (by decide) dL_stir_219 ?_
                  refine g_topi (b := kH ((u 15 0 0) + ((q) - (5)))) (by simp [yU]) ?_
                  refine g_icmp_ne 227 F dL_stir_220 (by omega) (by omega) rfl (fun c_21 => ?_) (fun c_21 => ?_)
                  · skip
                    exact absurd rfl c_21
                  · skip
                    have nS := SR_s hs s1
                    have nG : PG u1 (yU w 42 (0) (kH ((u 15 0 0) + ((q) - (5))))) := PG_cS (show PG u (yU w 42 (0) (kH ((u 15 0 0) + ((q) - (5))))) from PG_y hpu (yU_k (by decide))) s1.1.2.1
                    have nV : PV u1 (yU w 42 (0) (kH ((u 15 0 0) + ((q) - (5))))) := PV_cE (PV_hea hqu (by omega)) (by rw [per_10]; exact s1.2.1)
                    have nW : ∀ k : Int, k ≠ 42 → (yU w 42 (0) (kH ((u 15 0 0) + ((q) - (5))))) k = y k := fun k hk => (yU_kk hk).trans (hw k hk)
                    refine g_iconst F dL_stir_223 (1) (by decide) ?_
                    refine g_goto F 228 dL_stir_224 rfl ?_
                    refine g_istore F [(5, .int (J (1))), (9, .int (J ((q) - (5)))), (8, .int (J (i))), (7, .int (J (yy))), (0, .ref (ad 7 (0))), (1, .ref (ad 41 (0))), (2, .ref (ad 42 (0))), (3, .int (J (c))), (4, .int (J (3))), (6, .int (J (k)))] dL_stir_228 (by decide) rfl ?_
                    refine g_iinc F [(6, .int (J (k + 1))), (5, .int (J (1))), (9, .int (J ((q) - (5)))), (8, .int (J (i))), (7, .int (J (yy))), (0, .ref (ad 7 (0))), (1, .ref (ad 41 (0))), (2, .ref (ad 42 (0))), (3, .int (J (c))), (4, .int (J (3)))] 9 rfl dL_stir_230 (by decide) rfl ?_
                    refine g_goto F 6 dL_stir_233 rfl ?_
                    refine g_sub [5, 6, 7, 8, 9, 1, 0] (lv' := [(0, .ref (ad 7 (0))), (1, .ref (ad 41 (0))), (2, .ref (ad 42 (0))), (3, .int (J (c))), (4, .int (J (3))), (5, .int (J (1))), (6, .int (J (k + 1)))]) rfl ?_
                    exact ih6 (u1) ((yU w 42 (0) (kH ((u 15 0 0) + ((q) - (5)))))) (k + 1) (by omega) (nS) (nG) (nV) (nW) (by omega)
            · skip
              refine g_aload_n F dL_stir_128 rfl 5 rfl ?_
              refine g_iconst F dL_stir_129 (1) (by decide) ?_
              refine ga_42 F (by decide) dL_stir_130 ?_
              refine g_topi (b := trU u) (hqu.2.1) ?_
              refine g_iload F dL_stir_131 1 rfl ?_
              refine g_ishr F dL_stir_133 (trU u / p2 i) (J_shr ⟨htr.1, by omega⟩ ⟨by omega, by omega⟩) ?_
              refine g_iconst F dL_stir_134 (1) (by decide) ?_
              refine g_iand F dL_stir_135 (trU u / p2 i % 2) (J_bt ⟨htr.1, by omega⟩ ⟨by omega, by omega⟩) ?_
              refine g_topi (b := if u 6 i 0 ≠ -9 then 1 else 0) (bit_of h_i.1 h_i.2) ?_
              refine g_ifb_ne 189 F dL_stir_136 rfl (fun c_22 => ?_) (fun c_22 => ?_)
              · skip
                refine g_iload F dL_stir_189 0 rfl ?_
                refine g_if_eq 230 F dL_stir_191 (by omega) rfl (fun c_23 => ?_) (fun c_23 => ?_)
                · skip
                  have nS := SR_m hs (show k ≤ k + 1 by omega)
                  have nG := hpu
                  have nV := hqu
                  have nW := hw
                  refine g_iinc F [(6, .int (J (k + 1))), (9, .int (J ((q) - (5)))), (8, .int (J (i))), (7, .int (J (yy))), (0, .ref (ad 7 (0))), (1, .ref (ad 41 (0))), (2, .ref (ad 42 (0))), (3, .int (J (c))), (4, .int (J (3))), (5, .int (J (1)))] 9 rfl dL_stir_230 (by decide) rfl ?_
                  refine g_goto F 6 dL_stir_233 rfl ?_
                  refine g_sub [4, 5, 6, 7, 8, 9, 0] (lv' := [(0, .ref (ad 7 (0))), (1, .ref (ad 41 (0))), (2, .ref (ad 42 (0))), (3, .int (J (c))), (4, .int (J (3))), (5, .int (J (1))), (6, .int (J (k + 1)))]) rfl ?_
                  exact ih6 (u) (w) (k + 1) (by omega) (nS) (nG) (nV) (nW) (by omega)
                · skip
                  have rk := kH_r (u 15 0 0 + (q - 5))
                  refine g_aload_n F dL_stir_194 rfl 5 rfl ?_
                  refine g_iconst F dL_stir_195 (0) (by decide) ?_
                  refine g_aload_n F dL_stir_196 rfl 5 rfl ?_
                  refine g_iconst F dL_stir_197 (0) (by decide) ?_
                  refine ga_42 F (by decide) dL_stir_198 ?_
                  refine g_topi (b := u 15 0 0) (hqu.1) ?_
                  refine g_iload F dL_stir_199 0 rfl ?_
                  refine g_iadd F dL_stir_201 ?_
                  refine g_callS 1 F (As := [.int (J ((u 15 0 0) + ((q) - (5))))]) (st := [.int (J (0)), .ref (ad 42 (0))]) (c_L_cut l D ad u w ((u 15 0 0) + ((q) - (5))) (by omega)) rfl mk_L_64 ki_L_cut kc_L_cut (by decide +kernel) rfl (by decide) dL_stir_202 rfl (Nat.le_of_ble_eq_true rfl) (pI_k ?_)
                  refine gs_42 F (by decide) dL_stir_205 ?_
                  refine g_iload F dL_stir_206 8 rfl ?_
                  refine g_if_eq 227 F dL_stir_208 (by decide) rfl (fun c_24 => ?_) (fun c_24 => ?_)
                  · skip
                    exact absurd c_24 (by decide)
                  · skip
                    refine g_aload_n F dL_stir_211 rfl 3 rfl ?_
                    refine g_iload F dL_stir_212 0 rfl ?_
                    refine g_callV 1 F (As := [.int (J ((q) - (5)))]) (st := []) (c_X7_heat l D ad u (yU w 42 (0) (kH ((u 15 0 0) + ((q) - (5))))) ((q) - (5)) (by omega) (hu)) (gR_7) rfl mk_L_80 ki_X7_heat kc_X7_heat (by decide +kernel) rfl (by decide) dL_stir_214 rfl (Nat.le_of_ble_eq_true rfl) (pI_k ?_)
                    refine g_topi (b := kH (u 15 0 0 + (q - 5))) ((hea_ok hu (by omega) (by omega) (by omega) (by omega)).1) ?_
                    refine g_nm (P := fun u1 => STP u (perM u 0 (q - 5)) u1) ((hea_ok hu (by omega) (by omega) (by omega) (by omega)).2) (fun u1 s1 => ?_)
                    refine g_aload_n F dL_stir_217 rfl 5 rfl ?_
                    refine g_iconst F dL_stir_218 (0) (by decide) ?_
                    refine ga_42 F (by decide) dL_stir_219 ?_
                    refine g_topi (b := kH ((u 15 0 0) + ((q) - (5)))) (by simp [yU]) ?_
                    refine g_icmp_ne 227 F dL_stir_220 (by omega) (by omega) rfl (fun c_25 => ?_) (fun c_25 => ?_)
                    · skip
                      exact absurd rfl c_25
                    · skip
                      have nS := SR_s hs s1
                      have nG : PG u1 (yU w 42 (0) (kH ((u 15 0 0) + ((q) - (5))))) := PG_cS (show PG u (yU w 42 (0) (kH ((u 15 0 0) + ((q) - (5))))) from PG_y hpu (yU_k (by decide))) s1.1.2.1
                      have nV : PV u1 (yU w 42 (0) (kH ((u 15 0 0) + ((q) - (5))))) := PV_cE (PV_hea hqu (by omega)) (by rw [per_10]; exact s1.2.1)
                      have nW : ∀ k : Int, k ≠ 42 → (yU w 42 (0) (kH ((u 15 0 0) + ((q) - (5))))) k = y k := fun k hk => (yU_kk hk).trans (hw k hk)
                      refine g_iconst F dL_stir_223 (1) (by decide) ?_
                      refine g_goto F 228 dL_stir_224 rfl ?_
                      refine g_istore F [(5, .int (J (1))), (9, .int (J ((q) - (5)))), (8, .int (J (i))), (7, .int (J (yy))), (0, .ref (ad 7 (0))), (1, .ref (ad 41 (0))), (2, .ref (ad 42 (0))), (3, .int (J (c))), (4, .int (J (3))), (6, .int (J (k)))] dL_stir_228 (by decide) rfl ?_
                      refine g_iinc F [(6, .int (J (k + 1))), (5, .int (J (1))), (9, .int (J ((q) - (5)))), (8, .int (J (i))), (7, .int (J (yy))), (0, .ref (ad 7 (0))), (1, .ref (ad 41 (0))), (2, .ref (ad 42 (0))), (3, .int (J (c))), (4, .int (J (3)))] 9 rfl dL_stir_230 (by decide) rfl ?_
                      refine g_goto F 6 dL_stir_233 rfl ?_
                      refine g_sub [5, 6, 7, 8, 9, 1, 0] (lv' := [(0, .ref (ad 7 (0))), (1, .ref (ad 41 (0))), (2, .ref (ad 42 (0))), (3, .int (J (c))), (4, .int (J (3))), (5, .int (J (1))), (6, .int (J (k + 1)))]) rfl ?_
                      exact ih6 (u1) ((yU w 42 (0) (kH ((u 15 0 0) + ((q) - (5)))))) (k + 1) (by omega) (nS) (nG) (nV) (nW) (by omega)
              · skip
                have h6 : u 6 i 0 = -9 := by omega
                refine g_aload_n F dL_stir_139 rfl 5 rfl ?_
                refine g_iconst F dL_stir_140 (4) (by decide) ?_
                refine g_iload F dL_stir_141 1 rfl ?_
                refine g_iadd F dL_stir_143 ?_
                refine ga_42 F (by omega) dL_stir_144 ?_
                refine g_topi (b := u 5 i 0) (pv_s hqu h_i.1 h_i.2) ?_
                refine g_iconst F dL_stir_145 (3) (by decide) ?_
                refine g_icmp_ge 189 F dL_stir_146 (by omega) (by decide) rfl (fun c_26 => ?_) (fun c_26 => ?_)
                · skip
                  refine g_iload F dL_stir_189 0 rfl ?_
                  refine g_if_eq 230 F dL_stir_191 (by omega) rfl (fun c_27 => ?_) (fun c_27 => ?_)
                  · skip
                    have nS := SR_m hs (show k ≤ k + 1 by omega)
                    have nG := hpu
                    have nV := hqu
                    have nW := hw
                    refine g_iinc F [(6, .int (J (k + 1))), (9, .int (J ((q) - (5)))), (8, .int (J (i))), (7, .int (J (yy))), (0, .ref (ad 7 (0))), (1, .ref (ad 41 (0))), (2, .ref (ad 42 (0))), (3, .int (J (c))), (4, .int (J (3))), (5, .int (J (1)))] 9 rfl dL_stir_230 (by decide) rfl ?_
                    refine g_goto F 6 dL_stir_233 rfl ?_
                    refine g_sub [4, 5, 6, 7, 8, 9, 0] (lv' := [(0, .ref (ad 7 (0))), (1, .ref (ad 41 (0))), (2, .ref (ad 42 (0))), (3, .int (J (c))), (4, .int (J (3))), (5, .int (J (1))), (6, .int (J (k + 1)))]) rfl ?_
                    exact ih6 (u) (w) (k + 1) (by omega) (nS) (nG) (nV) (nW) (by omega)
                  · skip
                    have rk := kH_r (u 15 0 0 + (q - 5))
                    refine g_aload_n F dL_stir_194 rfl 5 rfl ?_
                    refine g_iconst F dL_stir_195 (0) (by decide) ?_
                    refine g_aload_n F dL_stir_196 rfl 5 rfl ?_
                    refine g_iconst F dL_stir_197 (0) (by decide) ?_
                    refine ga_42 F (by decide) dL_stir_198 ?_
                    refine g_topi (b := u 15 0 0) (hqu.1) ?_
                    refine g_iload F dL_stir_199 0 rfl ?_
                    refine g_iadd F dL_stir_201 ?_
                    refine g_callS 1 F (As := [.int (J ((u 15 0 0) + ((q) - (5))))]) (st := [.int (J (0)), .ref (ad 42 (0))]) (c_L_cut l D ad u w ((u 15 0 0) + ((q) - (5))) (by omega)) rfl mk_L_64 ki_L_cut kc_L_cut (by decide +kernel) rfl (by decide) dL_stir_202 rfl (Nat.le_of_ble_eq_true rfl) (pI_k ?_)
                    refine gs_42 F (by decide) dL_stir_205 ?_
                    refine g_iload F dL_stir_206 8 rfl ?_
                    refine g_if_eq 227 F dL_stir_208 (by decide) rfl (fun c_28 => ?_) (fun c_28 => ?_)
                    · skip
                      exact absurd c_28 (by decide)
                    · skip
                      refine g_aload_n F dL_stir_211 rfl 3 rfl ?_
                      refine g_iload F dL_stir_212 0 rfl ?_
                      refine g_callV 1 F (As := [.int (J ((q) - (5)))]) (st := []) (c_X7_heat l D ad u (yU w 42 (0) (kH ((u 15 0 0) + ((q) - (5))))) ((q) - (5)) (by omega) (hu)) (gR_7) rfl mk_L_80 ki_X7_heat kc_X7_heat (by decide +kernel) rfl (by decide) dL_stir_214 rfl (Nat.le_of_ble_eq_true rfl) (pI_k ?_)
                      refine g_topi (b := kH (u 15 0 0 + (q - 5))) ((hea_ok hu (by omega) (by omega) (by omega) (by omega)).1) ?_
                      refine g_nm (P := fun u1 => STP u (perM u 0 (q - 5)) u1) ((hea_ok hu (by omega) (by omega) (by omega) (by omega)).2) (fun u1 s1 => ?_)
                      refine g_aload_n F dL_stir_217 rfl 5 rfl ?_
                      refine g_iconst F dL_stir_218 (0) (by decide) ?_
                      refine ga_42 F (by decide) dL_stir_219 ?_
                      refine g_topi (b := kH ((u 15 0 0) + ((q) - (5)))) (by simp [yU]) ?_
                      refine g_icmp_ne 227 F dL_stir_220 (by omega) (by omega) rfl (fun c_29 => ?_) (fun c_29 => ?_)
                      · skip
                        exact absurd rfl c_29
                      · skip
                        have nS := SR_s hs s1
                        have nG : PG u1 (yU w 42 (0) (kH ((u 15 0 0) + ((q) - (5))))) := PG_cS (show PG u (yU w 42 (0) (kH ((u 15 0 0) + ((q) - (5))))) from PG_y hpu (yU_k (by decide))) s1.1.2.1
                        have nV : PV u1 (yU w 42 (0) (kH ((u 15 0 0) + ((q) - (5))))) := PV_cE (PV_hea hqu (by omega)) (by rw [per_10]; exact s1.2.1)
                        have nW : ∀ k : Int, k ≠ 42 → (yU w 42 (0) (kH ((u 15 0 0) + ((q) - (5))))) k = y k := fun k hk => (yU_kk hk).trans (hw k hk)
                        refine g_iconst F dL_stir_223 (1) (by decide) ?_
                        refine g_goto F 228 dL_stir_224 rfl ?_
                        refine g_istore F [(5, .int (J (1))), (9, .int (J ((q) - (5)))), (8, .int (J (i))), (7, .int (J (yy))), (0, .ref (ad 7 (0))), (1, .ref (ad 41 (0))), (2, .ref (ad 42 (0))), (3, .int (J (c))), (4, .int (J (3))), (6, .int (J (k)))] dL_stir_228 (by decide) rfl ?_
                        refine g_iinc F [(6, .int (J (k + 1))), (5, .int (J (1))), (9, .int (J ((q) - (5)))), (8, .int (J (i))), (7, .int (J (yy))), (0, .ref (ad 7 (0))), (1, .ref (ad 41 (0))), (2, .ref (ad 42 (0))), (3, .int (J (c))), (4, .int (J (3)))] 9 rfl dL_stir_230 (by decide) rfl ?_
                        refine g_goto F 6 dL_stir_233 rfl ?_
                        refine g_sub [5, 6, 7, 8, 9, 1, 0] (lv' := [(0, .ref (ad 7 (0))), (1, .ref (ad 41 (0))), (2, .ref (ad 42 (0))), (3, .int (J (c))), (4, .int (J (3))), (5, .int (J (1))), (6, .int (J (k + 1)))]) rfl ?_
                        exact ih6 (u1) ((yU w 42 (0) (kH ((u 15 0 0) + ((q) - (5)))))) (k + 1) (by omega) (nS) (nG) (nV) (nW) (by omega)
                · skip
                  refine g_aload_n F dL_stir_149 rfl 5 rfl ?_
                  refine g_iconst F dL_stir_150 (4) (by decide) ?_
                  refine g_iload F dL_stir_151 1 rfl ?_
                  refine g_iadd F dL_stir_153 ?_
                  refine g_dup2 F dL_stir_154 rfl rfl ?_
                  refine ga_42 F (by omega) dL_stir_155 ?_
                  refine g_topi (b := u 5 i 0) (pv_s hqu h_i.1 h_i.2) ?_
                  refine g_iconst F dL_stir_156 (1) (by decide) ?_
                  refine g_iadd F dL_stir_157 ?_
                  refine gs_42 F (by omega) dL_stir_158 ?_
                  refine g_iload F dL_stir_159 8 rfl ?_
                  refine g_if_eq 183 F dL_stir_161 (by decide) rfl (fun c_30 => ?_) (fun c_30 => ?_)
                  · skip
                    exact absurd c_30 (by decide)
                  · skip
                    refine g_aload_n F dL_stir_164 rfl 3 rfl ?_
                    refine g_iload F dL_stir_165 1 rfl ?_
                    refine g_callV 1 F (As := [.int (J (i))]) (st := []) (c_X7_salve l D ad u (yU w 42 ((4) + (i)) ((u 5 i 0) + (1))) (i) (by omega) (hu)) (gR_7) rfl mk_L_77 ki_X7_salve kc_X7_salve (by decide +kernel) rfl (by decide) dL_stir_167 rfl (Nat.le_of_ble_eq_true rfl) (pI_k ?_)
                    refine g_topi (b := u 5 i 0 + 1) ((sal_ok hu (by omega) h_i.1 h_i.2 h6 (by omega)).1) ?_
                    refine g_nm (P := fun u1 => STP u (perM u 1 i) u1) ((sal_ok hu (by omega) h_i.1 h_i.2 h6 (by omega)).2) (fun u1 s1 => ?_)
                    refine g_aload_n F dL_stir_170 rfl 5 rfl ?_
                    refine g_iconst F dL_stir_171 (4) (by decide) ?_
                    refine g_iload F dL_stir_172 1 rfl ?_
                    refine g_iadd F dL_stir_174 ?_
                    refine ga_42 F (by omega) dL_stir_175 ?_
                    refine g_topi (b := (u 5 i 0) + (1)) (by simp [yU]) ?_
                    refine g_icmp_ne 183 F dL_stir_176 (by omega) (by omega) rfl (fun c_31 => ?_) (fun c_31 => ?_)
                    · skip
                      exact absurd rfl c_31
                    · skip
                      have nS := SR_s hs s1
                      have nG : PG u1 (yU w 42 ((4) + (i)) ((u 5 i 0) + (1))) := PG_cS (show PG u (yU w 42 ((4) + (i)) ((u 5 i 0) + (1))) from PG_y hpu (yU_k (by decide))) s1.1.2.1
                      have nV : PV u1 (yU w 42 ((4) + (i)) ((u 5 i 0) + (1))) := PV_cE (PV_sal hqu h_i.1 h_i.2 h10u.2) (by rw [per_10]; exact s1.2.1)
                      have nW : ∀ k : Int, k ≠ 42 → (yU w 42 ((4) + (i)) ((u 5 i 0) + (1))) k = y k := fun k hk => (yU_kk hk).trans (hw k hk)
                      refine g_iconst F dL_stir_179 (1) (by decide) ?_
                      refine g_goto F 184 dL_stir_180 rfl ?_
                      refine g_istore F [(5, .int (J (1))), (9, .int (J ((q) - (5)))), (8, .int (J (i))), (7, .int (J (yy))), (0, .ref (ad 7 (0))), (1, .ref (ad 41 (0))), (2, .ref (ad 42 (0))), (3, .int (J (c))), (4, .int (J (3))), (6, .int (J (k)))] dL_stir_184 (by decide) rfl ?_
                      refine g_goto F 230 dL_stir_186 rfl ?_
                      refine g_iinc F [(6, .int (J (k + 1))), (5, .int (J (1))), (9, .int (J ((q) - (5)))), (8, .int (J (i))), (7, .int (J (yy))), (0, .ref (ad 7 (0))), (1, .ref (ad 41 (0))), (2, .ref (ad 42 (0))), (3, .int (J (c))), (4, .int (J (3)))] 9 rfl dL_stir_230 (by decide) rfl ?_
                      refine g_goto F 6 dL_stir_233 rfl ?_
                      refine g_sub [5, 6, 7, 8, 9, 1, 0] (lv' := [(0, .ref (ad 7 (0))), (1, .ref (ad 41 (0))), (2, .ref (ad 42 (0))), (3, .int (J (c))), (4, .int (J (3))), (5, .int (J (1))), (6, .int (J (k + 1)))]) rfl ?_
                      exact ih6 (u1) ((yU w 42 ((4) + (i)) ((u 5 i 0) + (1)))) (k + 1) (by omega) (nS) (nG) (nV) (nW) (by omega)
          · skip
            have h6 : u 6 i 0 = -9 := by omega
            refine g_aload_n F dL_stir_70 rfl 4 rfl ?_
            refine g_aload_n F dL_stir_71 rfl 5 rfl ?_
            refine g_iload F dL_stir_72 1 rfl ?_
            refine g_callS 3 F (As := [.ref (ad 41 (0)), .ref (ad 42 (0)), .int (J (i))]) (st := []) (c_L_trial l D ad u w (i) (hu.1) (hpu) (hqu) (h_i) (h6) (INV_UW hu i h_i.1 h_i.2 h6)) rfl mk_L_67 ki_L_trial kc_L_trial (by decide +kernel) rfl (by decide) dL_stir_74 rfl (Nat.le_of_ble_eq_true rfl) (pH_k (fun v_74 hG_74 => ?_))
            obtain ⟨hv1, hv2⟩ := hG_74
            refine g_istore F [(10, .int (J (vU u (i) (u 15 0 0)))), (9, .int (J ((q) - (5)))), (8, .int (J (i))), (7, .int (J (yy))), (0, .ref (ad 7 (0))), (1, .ref (ad 41 (0))), (2, .ref (ad 42 (0))), (3, .int (J (c))), (4, .int (J (3))), (5, .int (J (1))), (6, .int (J (k)))] dL_stir_77 (by decide) rfl ?_
            refine g_iload F dL_stir_79 9 rfl ?_
            refine g_if_eq 114 F dL_stir_81 (by decide) rfl (fun c_32 => ?_) (fun c_32 => ?_)
            · skip
              exact absurd c_32 (by decide)
            · skip
              refine g_aload_n F dL_stir_84 rfl 4 rfl ?_
              refine g_iload F dL_stir_85 2 rfl ?_
              refine g_callV 1 F (As := [.int (J (i))]) (st := []) (c_X7_trial l D ad u v_74 (i) (by omega) (hu)) (gR_7) rfl mk_L_71 ki_X7_trial kc_X7_trial (by decide +kernel) rfl (by decide) dL_stir_87 rfl (Nat.le_of_ble_eq_true rfl) (pI_k ?_)
              refine g_topi (b := vU u (i) (u 15 0 0)) ((tri_ok hu (by omega) h_i.1 h_i.2 h6).1) ?_
              refine g_nm (P := fun u1 => STP u (perM u 2 i) u1 ∧ u1 19 0 0 = if sWr (u 2 i 0) (vU u i (u 15 0 0)) then 1 else 0) ((tri_ok hu (by omega) h_i.1 h_i.2 h6).2) (fun u1 ⟨s1, t1⟩ => ?_)
              refine g_iload F dL_stir_90 0 rfl ?_
              refine g_icmp_ne 114 F dL_stir_92 (by omega) (by omega) rfl (fun c_33 => ?_) (fun c_33 => ?_)
              · skip
                exact absurd rfl c_33
              · skip
                refine g_aload_n F dL_stir_95 rfl 4 rfl ?_
                refine g_callV 0 F (As := []) (st := []) (c_X7_asked l D ad u1 v_74  ) (gR_7) rfl mk_L_73 ki_X7_asked kc_X7_asked (by decide +kernel) rfl (by decide) dL_stir_96 rfl (Nat.le_of_ble_eq_true rfl) (pI_k ?_)
                refine g_topi (b := if sWr (u 2 i 0) (vU u i (u 15 0 0)) then 1 else 0) (t1) ?_
                refine g_aload_n F dL_stir_99 rfl 5 rfl ?_
                refine g_iload F dL_stir_100 2 rfl ?_
                refine g_iload F dL_stir_102 0 rfl ?_
                refine g_callS 3 F (As := [.ref (ad 41 (0)), .int (J (i)), .int (J (vU u (i) (u 15 0 0)))]) (st := [.int (J (if sWr (u 2 i 0) (vU u i (u 15 0 0)) then 1 else 0))]) (c_L_wrong l D ad u1 v_74 (i) (vU u (i) (u 15 0 0)) (s1.1.1.1) (PG_cS (PG_y hpu (hv2 41 (by decide))) s1.1.2.1) (by rw [EXT_10 s1.1]; exact h_i) (by have := vU_r u i (u 15 0 0); omega)) rfl mk_L_61 ki_L_wrong kc_L_wrong (by decide +kernel) rfl (by decide) dL_stir_104 rfl (Nat.le_of_ble_eq_true rfl) (pI_k ?_)
                refine g_topi (b := if sWr (u 2 i 0) (vU u i (u 15 0 0)) then 1 else 0) (by rw [s1.1.2.1 2 i 0 (by omega) (by omega)]) ?_
                refine g_icmp_ne 114 F dL_stir_107 (b01) (b01) rfl (fun c_34 => ?_) (fun c_34 => ?_)
                · skip
                  exact absurd rfl c_34
                · skip
                  have nS := SR_s hs s1
                  have nG : PG u1 v_74 := PG_cS (PG_y hpu (hv2 41 (by decide))) s1.1.2.1
                  have nV : PV u1 v_74 := PV_cE hv1 (by rw [per_10]; exact s1.2.1)
                  have nW : ∀ k : Int, k ≠ 42 → v_74 k = y k := fun k hk => (hv2 k hk).trans (hw k hk)
                  refine g_iconst F dL_stir_110 (1) (by decide) ?_
                  refine g_goto F 115 dL_stir_111 rfl ?_
                  refine g_istore F [(5, .int (J (1))), (10, .int (J (vU u (i) (u 15 0 0)))), (9, .int (J ((q) - (5)))), (8, .int (J (i))), (7, .int (J (yy))), (0, .ref (ad 7 (0))), (1, .ref (ad 41 (0))), (2, .ref (ad 42 (0))), (3, .int (J (c))), (4, .int (J (3))), (6, .int (J (k)))] dL_stir_115 (by decide) rfl ?_
                  refine g_goto F 230 dL_stir_117 rfl ?_
                  refine g_iinc F [(6, .int (J (k + 1))), (5, .int (J (1))), (10, .int (J (vU u (i) (u 15 0 0)))), (9, .int (J ((q) - (5)))), (8, .int (J (i))), (7, .int (J (yy))), (0, .ref (ad 7 (0))), (1, .ref (ad 41 (0))), (2, .ref (ad 42 (0))), (3, .int (J (c))), (4, .int (J (3)))] 10 rfl dL_stir_230 (by decide) rfl ?_
                  refine g_goto F 6 dL_stir_233 rfl ?_
                  refine g_sub [6, 7, 8, 9, 10, 1, 0] (lv' := [(0, .ref (ad 7 (0))), (1, .ref (ad 41 (0))), (2, .ref (ad 42 (0))), (3, .int (J (c))), (4, .int (J (3))), (5, .int (J (1))), (6, .int (J (k + 1)))]) rfl ?_
                  exact ih6 (u1) (v_74) (k + 1) (by omega) (nS) (nG) (nV) (nW) (by omega)
  refine g_sub [2, 3, 4, 5, 6, 1, 0] (lv' := [(0, .ref (ad 7 (0))), (1, .ref (ad 41 (0))), (2, .ref (ad 42 (0))), (3, .int (J (c))), (4, .int (J (3))), (5, .int (J (1))), (6, .int (J (0)))]) rfl ?_
  exact L6 _ (x) (y) (0) (by omega) (SR_0 hV) (hp) (hq) (fun _ _ => rfl) (Nat.lt_succ_self _)
