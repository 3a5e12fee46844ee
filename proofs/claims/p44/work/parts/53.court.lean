theorem lwZ_6 {v : Int} {n : Int} (h : n = 3 ∨ n = 6) : 0 ≤ lwZ v n ∧ lwZ v n < 6 := by
  have := lwZ_r (v := v) (n := n) (by omega)
  omega
set_option maxRecDepth 20000 in
theorem c_L_court (l : Launch) (D : gD) (ad : gA) (x : gX) (y : gY) (b L : Nat) (sc : Int → Int) (hL : L ≤ 260) (hsc : ∀ j : Int, i32 (sc j))  (hV : INV x) : gCS l D ad 8 yL_court cL_court 9 (some .boolean) [.ref (ad 7 (0)), .ref b, .ref (ad 41 (0)), .ref (ad 42 (0))] x y b L sc (pP (.int (J (1))) (fun u9 w9 => CT x u9 w9)) := by
  refine g_metS RL rfl (by decide +kernel) [(0, .ref (ad 7 (0))), (1, .ref b), (2, .ref (ad 41 (0))), (3, .ref (ad 42 (0)))] rfl (Nat.le_of_ble_eq_true rfl) (fun Θ F hX hR => ?_)
  refine g_aload_n F dL_court_0 rfl 1 rfl ?_
  refine g_iconst F dL_court_1 (0) (by decide) ?_
  refine g_callSS 2 F hX (As := [.ref b, .int (J (0))]) (st := []) (c_L_cell l D ad x y b L sc hL hsc (0) (by omega)) rfl mk_L_9 ki_L_cell kc_L_cell (by decide +kernel) rfl (by decide) dL_court_2 rfl (Nat.le_of_ble_eq_true rfl) (pI_k ?_)
  refine g_nmi (P := fun xx => True) (trivial) (fun xx h_xx => ?_)
  refine g_istore F [(4, .int (J (xx))), (0, .ref (ad 7 (0))), (1, .ref b), (2, .ref (ad 41 (0))), (3, .ref (ad 42 (0)))] dL_court_5 (by decide) rfl ?_
  refine g_aload_n F dL_court_7 rfl 3 rfl ?_
  refine g_iconst F dL_court_8 (0) (by decide) ?_
  refine g_iconst F dL_court_9 (1) (by decide) ?_
  refine g_iload F dL_court_10 0 rfl ?_
  refine g_bipush F dL_court_12 (6) (by decide) ?_
  refine g_callS 2 F (As := [.int (J (xx)), .int (J (6))]) (st := [.int (J (1)), .int (J (0)), .ref (ad 41 (0))]) (c_L_low l D ad x y (xx) (6) (by omega)) rfl mk_L_15 ki_L_low kc_L_low (by decide +kernel) rfl (by decide) dL_court_14 rfl (Nat.le_of_ble_eq_true rfl) (pI_k ?_)
  refine g_nmi (P := fun a0 => 0 ≤ a0 ∧ a0 < 6) (lwZ_r (by decide)) (fun a0 h_a0 => ?_)
  refine g_iadd F dL_court_17 ?_
  refine gs_41 F (by decide) dL_court_18 ?_
  refine g_aload_n F dL_court_19 rfl 3 rfl ?_
  refine g_iconst F dL_court_20 (1) (by decide) ?_
  refine g_iconst F dL_court_21 (1) (by decide) ?_
  refine g_iload F dL_court_22 0 rfl ?_
  refine g_iconst F dL_court_24 (3) (by decide) ?_
  refine g_ishr F dL_court_25 (shZ xx 3) (J_sh xx 3) ?_
  refine g_iconst F dL_court_26 (3) (by decide) ?_
  refine g_callS 2 F (As := [.int (J (shZ xx 3)), .int (J (3))]) (st := [.int (J (1)), .int (J (1)), .ref (ad 41 (0))]) (c_L_low l D ad x (yU y 41 (0) ((1) + (a0))) (shZ xx 3) (3) (by omega)) rfl mk_L_15 ki_L_low kc_L_low (by decide +kernel) rfl (by decide) dL_court_27 rfl (Nat.le_of_ble_eq_true rfl) (pI_k ?_)
  refine g_nmi (P := fun a1 => 0 ≤ a1 ∧ a1 < 3) (lwZ_r (by decide)) (fun a1 h_a1 => ?_)
  refine g_iadd F dL_court_30 ?_
  refine gs_41 F (by decide) dL_court_31 ?_
  refine g_aload_n F dL_court_32 rfl 3 rfl ?_
  refine g_iconst F dL_court_33 (2) (by decide) ?_
  refine g_iload F dL_court_34 0 rfl ?_
  refine g_iconst F dL_court_36 (5) (by decide) ?_
  refine g_ishr F dL_court_37 (shZ xx 5) (J_sh xx 5) ?_
  refine g_bipush F dL_court_38 (10) (by decide) ?_
  refine g_callS 2 F (As := [.int (J (shZ xx 5)), .int (J (10))]) (st := [.int (J (2)), .ref (ad 41 (0))]) (c_L_low l D ad x (yU (yU y 41 (0) ((1) + (a0))) 41 (1) ((1) + (a1))) (shZ xx 5) (10) (by omega)) rfl mk_L_15 ki_L_low kc_L_low (by decide +kernel) rfl (by decide) dL_court_40 rfl (Nat.le_of_ble_eq_true rfl) (pI_k ?_)
  refine g_nmi (P := fun a2 => 0 ≤ a2 ∧ a2 < 10) (lwZ_r (by decide)) (fun a2 h_a2 => ?_)
  refine gs_41 F (by decide) dL_court_43 ?_
  refine g_aload_n F dL_court_44 rfl 3 rfl ?_
  refine g_iconst F dL_court_45 (3) (by decide) ?_
  refine g_iload F dL_court_46 0 rfl ?_
  refine g_bipush F dL_court_48 (9) (by decide) ?_
  refine g_ishr F dL_court_50 (shZ xx 9) (J_sh xx 9) ?_
  refine g_bipush F dL_court_51 (10) (by decide) ?_
  refine g_callS 2 F (As := [.int (J (shZ xx 9)), .int (J (10))]) (st := [.int (J (3)), .ref (ad 41 (0))]) (c_L_low l D ad x (yU (yU (yU y 41 (0) ((1) + (a0))) 41 (1) ((1) + (a1))) 41 (2) (a2)) (shZ xx 9) (10) (by omega)) rfl mk_L_15 ki_L_low kc_L_low (by decide +kernel) rfl (by decide) dL_court_53 rfl (Nat.le_of_ble_eq_true rfl) (pI_k ?_)
  refine g_nmi (P := fun a3 => 0 ≤ a3 ∧ a3 < 10) (lwZ_r (by decide)) (fun a3 h_a3 => ?_)
  refine gs_41 F (by decide) dL_court_56 ?_
  have L89 : ∀ (N : Nat) (w : gY) (k : Int), 0 ≤ k ∧ k ≤ 16 → GI (w 41) → (∀ j : Int, 0 ≤ j → j < k → w 42 j = if j = 0 then 8 else if j < 10 then 0 else -9) → (16 - k).toNat < N → gW Θ l D ad 9 89 [(0, .ref (ad 7 (0))), (1, .ref b), (2, .ref (ad 41 (0))), (3, .ref (ad 42 (0))), (5, .int (J (k)))] [] x w := by
    intro N
    induction N with
    | zero => intro w k hj hg hv hFu; omega
    | succ N ih89 =>
      intro w k hj hg hv hFu
      refine g_iload F dL_court_89 4 rfl ?_
      refine g_bipush F dL_court_91 (16) (by decide) ?_
      refine g_icmp_ge 129 F dL_court_93 (by omega) (by decide) rfl (fun c_1 => ?_) (fun c_1 => ?_)
      · skip
        refine g_aload_n F dL_court_129 rfl 0 rfl ?_
        refine g_iconst F dL_court_130 (0) (by decide) ?_
        refine g_bipush F dL_court_131 (50) (by decide) ?_
        refine g_callV 2 F (As := [.int (J (0)), .int (J (50))]) (st := []) (c_X7_text l D ad x w (0) (50) (by omega) (by omega) (hV)) (gR_7) rfl mk_L_19 ki_X7_text kc_X7_text (by decide +kernel) rfl (by decide) dL_court_133 rfl (Nat.le_of_ble_eq_true rfl) (pI_k ?_)
        refine g_topi (b := 50) ((txt_ok hV).1) ?_
        refine g_nm (P := fun v1 => CP x v1 ∧ ∀ j : Int, 0 ≤ j → j < 50 → v1 20 6 j = 32) ((txt_ok hV).2) (fun v1 ⟨h_v1, b_v1⟩ => ?_)
        refine g_bipush F dL_court_136 (50) (by decide) ?_
        refine g_icmp_ne 159 F dL_court_138 (by decide) (by decide) rfl (fun c_2 => ?_) (fun c_2 => ?_)
        · skip
          exact absurd rfl c_2
        · skip
          refine g_aload_n F dL_court_141 rfl 0 rfl ?_
          refine g_iconst F dL_court_142 (0) (by decide) ?_
          refine g_iconst F dL_court_143 (0) (by decide) ?_
          refine g_bipush F dL_court_144 (105) (by decide) ?_
          refine g_callV 3 F (As := [.int (J (0)), .int (J (0)), .int (J (105))]) (st := []) (c_X7_put l D ad v1 w (0) (0) (105) (by omega) (by omega) (by omega) (h_v1.1)) (gR_7) rfl mk_L_24 ki_X7_put kc_X7_put (by decide +kernel) rfl (by decide) dL_court_146 rfl (Nat.le_of_ble_eq_true rfl) (pI_k ?_)
          refine g_topi (b := 1032) ((put_ok h_v1 (i := 0) (v := 105) (by omega) (by decide) (b_v1 0 (by decide) (by decide))).1) ?_
          refine g_nm (P := fun v2 => CP x v2 ∧ ∀ j : Int, v2 20 6 j = if j = 0 then 105 else v1 20 6 j) ((put_ok h_v1 (i := 0) (v := 105) (by omega) (by decide) (b_v1 0 (by decide) (by decide))).2) (fun v2 ⟨h_v2, e_v2⟩ => ?_)
          refine g_sipush F dL_court_149 (1032) (by decide) ?_
          refine g_icmp_ne 159 F dL_court_152 (by decide) (by decide) rfl (fun c_3 => ?_) (fun c_3 => ?_)
          · skip
            exact absurd rfl c_3
          · skip
            refine g_iconst F dL_court_155 (1) (by decide) ?_
            refine g_goto F 160 dL_court_156 rfl ?_
            refine g_istore F [(5, .int (J (1))), (0, .ref (ad 7 (0))), (1, .ref b), (2, .ref (ad 41 (0))), (3, .ref (ad 42 (0)))] dL_court_160 (by decide) rfl ?_
            refine g_iconst F dL_court_162 (1) (by decide) ?_
            refine g_istore F [(6, .int (J (1))), (5, .int (J (1))), (0, .ref (ad 7 (0))), (1, .ref b), (2, .ref (ad 41 (0))), (3, .ref (ad 42 (0)))] dL_court_163 (by decide) rfl ?_
            have L165 : ∀ (N : Nat) (u : gX) (k : Int), 1 ≤ k ∧ k ≤ 5 → CP x u → u 20 6 0 = 105 → (∀ q : Int, 1 ≤ q → q < k → u 20 6 q = 48 + w 41 q) → (∀ j : Int, k ≤ j → j < 50 → u 20 6 j = 32) → (5 - k).toNat < N → gW Θ l D ad 9 165 [(0, .ref (ad 7 (0))), (1, .ref b), (2, .ref (ad 41 (0))), (3, .ref (ad 42 (0))), (5, .int (J (1))), (6, .int (J (k)))] [] u w := by
              intro N
              induction N with
              | zero => intro u k hj hc h0 ha hb hFu; omega
              | succ N ih165 =>
                intro u k hj hc h0 ha hb hFu
                refine g_iload F dL_court_165 5 rfl ?_
                refine g_iconst F dL_court_167 (5) (by decide) ?_
                refine g_icmp_ge 209 F dL_court_168 (by omega) (by decide) rfl (fun c_4 => ?_) (fun c_4 => ?_)
                · skip
                  refine g_iconst F dL_court_209 (0) (by decide) ?_
                  refine g_istore F [(6, .int (J (0))), (0, .ref (ad 7 (0))), (1, .ref b), (2, .ref (ad 41 (0))), (3, .ref (ad 42 (0))), (5, .int (J (1)))] dL_court_210 (by decide) rfl ?_
                  have L212 : ∀ (N : Nat) (u : gX) (w : gY) (i : Int), 0 ≤ i ∧ i ≤ w 41 0 → CP x u → GI (w 41) → GM (w 41) i → TXP (u 20 6) (w 41) i → (∀ j : Int, 0 ≤ j → j < 16 → w 42 j = if j = 0 then 8 else if j < 10 then 0 else -9) → (w 41 0 - i).toNat < N → gW Θ l D ad 9 212 [(0, .ref (ad 7 (0))), (1, .ref b), (2, .ref (ad 41 (0))), (3, .ref (ad 42 (0))), (5, .int (J (1))), (6, .int (J (i)))] [] u w := by
                    intro N
                    induction N with
                    | zero => intro u w i hi hc hg hm hT hv2 hFu; omega
                    | succ N ih212 =>
                      intro u w i hi hc hg hm hT hv2 hFu
                      have hg0 := hg.1
                      refine g_iload F dL_court_212 5 rfl ?_
                      refine g_aload_n F dL_court_214 rfl 2 rfl ?_
                      refine g_iconst F dL_court_215 (0) (by decide) ?_
                      refine ga_41 F (by decide) dL_court_216 ?_
                      refine g_topi (b := w 41 0) (rfl) ?_
                      refine g_icmp_ge 413 F dL_court_217 (by omega) (by omega) rfl (fun c_5 => ?_) (fun c_5 => ?_)
                      · skip
                        have ei : i = w 41 0 := by omega
                        rw [ei] at hm hT
                        have eF := (flt_ok hc hT hg hm hg.1).1
                        refine g_iload F dL_court_413 4 rfl ?_
                        refine g_if_eq 443 F dL_court_415 (by decide) rfl (fun c_6 => ?_) (fun c_6 => ?_)
                        · skip
                          exact absurd c_6 (by decide)
                        · skip
                          refine g_aload_n F dL_court_418 rfl 0 rfl ?_
                          refine g_iconst F dL_court_419 (0) (by decide) ?_
                          refine g_callV 1 F (As := [.int (J (0))]) (st := []) (c_X7_fault l D ad u w (0) (by omega) (hc.1)) (gR_7) rfl mk_L_32 ki_X7_fault kc_X7_fault (by decide +kernel) rfl (by decide) dL_court_420 rfl (Nat.le_of_ble_eq_true rfl) (pG_k (fun u_420 hG_420 => ?_))
                          rw [eF] at hG_420
                          have hc3 := CP_xG hc hG_420
                          have hT3 : TXP (u_420 20 6) (w 41) (w 41 0) := by rw [hc3.2]; exact hT
                          have eC := (flt_ok hc3.1 hT3 hg hm hg.1).2
                          refine g_topi (b := -9) (by rw [eF]) ?_
                          refine g_bipush F dL_court_423 (-9) (by decide) ?_
                          refine g_icmp_ne 443 F dL_court_425 (by decide) (by decide) rfl (fun c_7 => ?_) (fun c_7 => ?_)
                          · skip
                            exact absurd rfl c_7
                          · skip
                            refine g_aload_n F dL_court_428 rfl 0 rfl ?_
                            refine g_iconst F dL_court_429 (0) (by decide) ?_
                            refine g_callV 1 F (As := [.int (J (0))]) (st := []) (c_X7_court l D ad u_420 w (0) (by omega) (hc3.1.1)) (gR_7) rfl mk_L_35 ki_X7_court kc_X7_court (by decide +kernel) rfl (by decide) dL_court_430 rfl (Nat.le_of_ble_eq_true rfl) (pG_k (fun u_430 hG_430 => ?_))
                            rw [eC] at hG_430
                            refine g_topi (b := w 41 0) (by rw [eC]) ?_
                            refine g_aload_n F dL_court_433 rfl 2 rfl ?_
                            refine g_iconst F dL_court_434 (0) (by decide) ?_
                            refine ga_41 F (by decide) dL_court_435 ?_
                            refine g_topi (b := w 41 0) (rfl) ?_
                            refine g_icmp_ne 443 F dL_court_436 (by omega) (by omega) rfl (fun c_8 => ?_) (fun c_8 => ?_)
                            · skip
                              exact absurd rfl c_8
                            · skip
                              refine g_iconst F dL_court_439 (1) (by decide) ?_
                              refine g_goto F 444 dL_court_440 rfl ?_
                              exact g_zreturn F hR dL_court_444 (by omega) (pP_z (by rfl) (by exact cou_ok hc3.1 hT3 hg hm hv2 hG_430))
                      · skip
                        have hi6 : 0 ≤ i ∧ i < 6 := by omega
                        refine g_aload_n F dL_court_220 rfl 1 rfl ?_
                        refine g_iconst F dL_court_221 (1) (by decide) ?_
                        refine g_iload F dL_court_222 5 rfl ?_
                        refine g_iadd F dL_court_224 ?_
                        refine g_callSS 2 F hX (As := [.ref b, .int (J ((1) + (i)))]) (st := []) (c_L_cell l D ad u w b L sc hL hsc ((1) + (i)) (by omega)) rfl mk_L_9 ki_L_cell kc_L_cell (by decide +kernel) rfl (by decide) dL_court_225 rfl (Nat.le_of_ble_eq_true rfl) (pI_k ?_)
                        refine g_nmi (P := fun yy => True) (trivial) (fun yy h_yy => ?_)
                        refine g_istore F [(7, .int (J (yy))), (0, .ref (ad 7 (0))), (1, .ref b), (2, .ref (ad 41 (0))), (3, .ref (ad 42 (0))), (5, .int (J (1))), (6, .int (J (i)))] dL_court_228 (by decide) rfl ?_
                        refine g_bipush F dL_court_230 (6) (by decide) ?_
                        refine g_iconst F dL_court_232 (5) (by decide) ?_
                        refine g_iload F dL_court_233 6 rfl ?_
                        refine g_imul F dL_court_235 ?_
                        refine g_iadd F dL_court_236 ?_
                        refine g_istore F [(8, .int (J ((6) + ((5) * (i))))), (7, .int (J (yy))), (0, .ref (ad 7 (0))), (1, .ref b), (2, .ref (ad 41 (0))), (3, .ref (ad 42 (0))), (5, .int (J (1))), (6, .int (J (i)))] dL_court_237 (by decide) rfl ?_
                        refine g_aload_n F dL_court_239 rfl 4 rfl ?_
                        refine g_iconst F dL_court_240 (5) (by decide) ?_
                        refine g_iload F dL_court_241 7 rfl ?_
                        refine g_iadd F dL_court_243 ?_
                        refine g_iload F dL_court_244 1 rfl ?_
                        refine g_bipush F dL_court_246 (6) (by decide) ?_
                        refine g_callS 2 F (As := [.int (J (yy)), .int (J (6))]) (st := [.int (J ((5) + (i))), .ref (ad 41 (0))]) (c_L_low l D ad u w (yy) (6) (by omega)) rfl mk_L_15 ki_L_low kc_L_low (by decide +kernel) rfl (by decide) dL_court_248 rfl (Nat.le_of_ble_eq_true rfl) (pI_k ?_)
                        refine g_nmi (P := fun b0 => 0 ≤ b0 ∧ b0 < 6) (lwZ_r (by decide)) (fun b0 h_b0 => ?_)
                        have hl := ltr_r (k := b0) (by omega)
                        refine gs_41 F (by omega) dL_court_251 ?_
                        refine g_aload_n F dL_court_252 rfl 4 rfl ?_
                        refine g_bipush F dL_court_253 (11) (by decide) ?_
                        refine g_iload F dL_court_255 7 rfl ?_
                        refine g_iadd F dL_court_257 ?_
                        refine g_iload F dL_court_258 1 rfl ?_
                        refine g_iconst F dL_court_260 (3) (by decide) ?_
                        refine g_ishr F dL_court_261 (shZ yy 3) (J_sh yy 3) ?_
                        refine g_iconst F dL_court_262 (1) (by decide) ?_
                        refine g_iand F dL_court_263 (anZ (shZ yy 3) 1) (J_an (shZ yy 3) 1) ?_
                        refine g_nmi (P := fun b1 => 0 ≤ b1 ∧ b1 ≤ 1) (anZ_r (by decide)) (fun b1 h_b1 => ?_)
                        refine gs_41 F (by omega) dL_court_264 ?_
                        refine g_aload_n F dL_court_265 rfl 4 rfl ?_
                        refine g_bipush F dL_court_266 (17) (by decide) ?_
                        refine g_iload F dL_court_268 7 rfl ?_
                        refine g_iadd F dL_court_270 ?_
                        refine g_iload F dL_court_271 1 rfl ?_
                        refine g_iconst F dL_court_273 (4) (by decide) ?_
                        refine g_ishr F dL_court_274 (shZ yy 4) (J_sh yy 4) ?_
                        refine g_bipush F dL_court_275 (10) (by decide) ?_
                        refine g_callS 2 F (As := [.int (J (shZ yy 4)), .int (J (10))]) (st := [.int (J ((17) + (i))), .ref (ad 41 (0))]) (c_L_low l D ad u (yU (yU w 41 ((5) + (i)) (b0)) 41 ((11) + (i)) (b1)) (shZ yy 4) (10) (by omega)) rfl mk_L_15 ki_L_low kc_L_low (by decide +kernel) rfl (by decide) dL_court_277 rfl (Nat.le_of_ble_eq_true rfl) (pI_k ?_)
                        refine g_nmi (P := fun b2 => 0 ≤ b2 ∧ b2 < 10) (lwZ_r (by decide)) (fun b2 h_b2 => ?_)
                        refine gs_41 F (by omega) dL_court_280 ?_
                        refine g_aload_n F dL_court_281 rfl 4 rfl ?_
                        refine g_bipush F dL_court_282 (23) (by decide) ?_
                        refine g_iload F dL_court_284 7 rfl ?_
                        refine g_iadd F dL_court_286 ?_
                        refine g_iload F dL_court_287 1 rfl ?_
                        refine g_bipush F dL_court_289 (8) (by decide) ?_
                        refine g_ishr F dL_court_291 (shZ yy 8) (J_sh yy 8) ?_
                        refine g_bipush F dL_court_292 (10) (by decide) ?_
                        refine g_callS 2 F (As := [.int (J (shZ yy 8)), .int (J (10))]) (st := [.int (J ((23) + (i))), .ref (ad 41 (0))]) (c_L_low l D ad u (yU (yU (yU w 41 ((5) + (i)) (b0)) 41 ((11) + (i)) (b1)) 41 ((17) + (i)) (b2)) (shZ yy 8) (10) (by omega)) rfl mk_L_15 ki_L_low kc_L_low (by decide +kernel) rfl (by decide) dL_court_294 rfl (Nat.le_of_ble_eq_true rfl) (pI_k ?_)
                        refine g_nmi (P := fun b3 => 0 ≤ b3 ∧ b3 < 10) (lwZ_r (by decide)) (fun b3 h_b3 => ?_)
                        refine gs_41 F (by omega) dL_court_297 ?_
                        refine g_nmy (P := fun w1 => MNS w i b0 b1 b2 b3 w1) (MNS_4 w i b0 b1 b2 b3 hi6) (fun w1 m_w1 => ?_)
                        have m0 := m_w1.2.2.1 0 (by omega)
                        refine g_iload F dL_court_298 6 rfl ?_
                        refine g_if_eq 404 F dL_court_300 (by decide) rfl (fun c_9 => ?_) (fun c_9 => ?_)
                        · skip
                          exact absurd c_9 (by decide)
                        · skip
                          refine g_aload_n F dL_court_303 rfl 2 rfl ?_
                          refine g_iconst F dL_court_304 (0) (by decide) ?_
                          refine g_iload F dL_court_305 0 rfl ?_
                          refine g_aload_n F dL_court_307 rfl 4 rfl ?_
                          refine g_iconst F dL_court_308 (5) (by decide) ?_
                          refine g_iload F dL_court_309 7 rfl ?_
                          refine g_iadd F dL_court_311 ?_
                          refine ga_41 F (by omega) dL_court_312 ?_
                          refine g_topi (b := b0) (m_w1.1.1) ?_
                          refine g_callS 1 F (As := [.int (J (b0))]) (st := [.int (J ((6) + ((5) * (i)))), .int (J (0)), .ref (ad 7 (0))]) (c_L_letter l D ad u w1 (b0) (by omega)) rfl mk_L_28 ki_L_letter kc_L_letter (by decide +kernel) rfl (by decide) dL_court_313 rfl (Nat.le_of_ble_eq_true rfl) (pI_k ?_)
                          refine g_callV 3 F (As := [.int (J (0)), .int (J ((6) + ((5) * (i)))), .int (J (ltrZ (b0)))]) (st := []) (c_X7_put l D ad u w1 (0) ((6) + ((5) * (i))) (ltrZ (b0)) (by omega) (by omega) (by omega) (hc.1)) (gR_7) rfl mk_L_24 ki_X7_put kc_X7_put (by decide +kernel) rfl (by decide) dL_court_316 rfl (Nat.le_of_ble_eq_true rfl) (pI_k ?_)
                          refine g_topi (b := 1032) ((put_ok hc (i := (6 + 5 * i)) (v := (ltrZ b0)) (by omega) (by have := ltr_r (k := b0) (by omega); omega) (hT.2.2.2 (6 + 5 * i) (by omega) (by omega))).1) ?_
                          refine g_nm (P := fun u1 => CP x u1 ∧ ∀ j : Int, u1 20 6 j = if j = (6 + 5 * i) then (ltrZ b0) else u 20 6 j) ((put_ok hc (i := (6 + 5 * i)) (v := (ltrZ b0)) (by omega) (by have := ltr_r (k := b0) (by omega); omega) (hT.2.2.2 (6 + 5 * i) (by omega) (by omega))).2) (fun u1 ⟨h_u1, e_u1⟩ => ?_)
                          refine g_sipush F dL_court_319 (1032) (by decide) ?_
                          refine g_icmp_ne 404 F dL_court_322 (by decide) (by decide) rfl (fun c_10 => ?_) (fun c_10 => ?_)
                          · skip
                            exact absurd rfl c_10
                          · skip
                            refine g_aload_n F dL_court_325 rfl 2 rfl ?_
                            refine g_iconst F dL_court_326 (0) (by decide) ?_
                            refine g_iload F dL_court_327 0 rfl ?_
                            refine g_iconst F dL_court_329 (1) (by decide) ?_
                            refine g_iadd F dL_court_330 ?_
                            refine g_topi (b := 7 + 5 * i) (by omega) ?_
                            refine g_bipush F dL_court_331 (48) (by decide) ?_
                            refine g_aload_n F dL_court_333 rfl 4 rfl ?_
                            refine g_bipush F dL_court_334 (11) (by decide) ?_
                            refine g_iload F dL_court_336 7 rfl ?_
                            refine g_iadd F dL_court_338 ?_
                            refine ga_41 F (by omega) dL_court_339 ?_
                            refine g_topi (b := b1) (m_w1.1.2.1) ?_
                            refine g_iadd F dL_court_340 ?_
                            refine g_callV 3 F (As := [.int (J (0)), .int (J (7 + 5 * i)), .int (J ((48) + (b1)))]) (st := []) (c_X7_put l D ad u1 w1 (0) (7 + 5 * i) ((48) + (b1)) (by omega) (by omega) (by omega) (h_u1.1)) (gR_7) rfl mk_L_24 ki_X7_put kc_X7_put (by decide +kernel) rfl (by decide) dL_court_341 rfl (Nat.le_of_ble_eq_true rfl) (pI_k ?_)
                            refine g_topi (b := 1032) ((put_ok h_u1 (i := (7 + 5 * i)) (v := (48 + b1)) (by omega) (by omega) (by rw [e_u1, if_neg (by omega)]; exact hT.2.2.2 (7 + 5 * i) (by omega) (by omega))).1) ?_
                            refine g_nm (P := fun u2 => CP x u2 ∧ ∀ j : Int, u2 20 6 j = if j = (7 + 5 * i) then (48 + b1) else u1 20 6 j) ((put_ok h_u1 (i := (7 + 5 * i)) (v := (48 + b1)) (by omega) (by omega) (by rw [e_u1, if_neg (by omega)]; exact hT.2.2.2 (7 + 5 * i) (by omega) (by omega))).2) (fun u2 ⟨h_u2, e_u2⟩ => ?_)
                            refine g_sipush F dL_court_344 (1032) (by decide) ?_
                            refine g_icmp_ne 404 F dL_court_347 (by decide) (by decide) rfl (fun c_11 => ?_) (fun c_11 => ?_)
                            · skip
                              exact absurd rfl c_11
                            · skip
                              refine g_aload_n F dL_court_350 rfl 2 rfl ?_
                              refine g_iconst F dL_court_351 (0) (by decide) ?_
                              refine g_iload F dL_court_352 0 rfl ?_
                              refine g_iconst F dL_court_354 (2) (by decide) ?_
                              refine g_iadd F dL_court_355 ?_
                              refine g_topi (b := 8 + 5 * i) (by omega) ?_
                              refine g_bipush F dL_court_356 (48) (by decide) ?_
                              refine g_aload_n F dL_court_358 rfl 4 rfl ?_
                              refine g_bipush F dL_court_359 (17) (by decide) ?_
                              refine g_iload F dL_court_361 7 rfl ?_
                              refine g_iadd F dL_court_363 ?_
                              refine ga_41 F (by omega) dL_court_364 ?_
                              refine g_topi (b := b2) (m_w1.1.2.2.1) ?_
                              refine g_iadd F dL_court_365 ?_
                              refine g_callV 3 F (As := [.int (J (0)), .int (J (8 + 5 * i)), .int (J ((48) + (b2)))]) (st := []) (c_X7_put l D ad u2 w1 (0) (8 + 5 * i) ((48) + (b2)) (by omega) (by omega) (by omega) (h_u2.1)) (gR_7) rfl mk_L_24 ki_X7_put kc_X7_put (by decide +kernel) rfl (by decide) dL_court_366 rfl (Nat.le_of_ble_eq_true rfl) (pI_k ?_)
                              refine g_topi (b := 1032) ((put_ok h_u2 (i := (8 + 5 * i)) (v := (48 + b2)) (by omega) (by omega) (by rw [e_u2, if_neg (by omega), e_u1, if_neg (by omega)]; exact hT.2.2.2 (8 + 5 * i) (by omega) (by omega))).1) ?_
                              refine g_nm (P := fun u3 => CP x u3 ∧ ∀ j : Int, u3 20 6 j = if j = (8 + 5 * i) then (48 + b2) else u2 20 6 j) ((put_ok h_u2 (i := (8 + 5 * i)) (v := (48 + b2)) (by omega) (by omega) (by rw [e_u2, if_neg (by omega), e_u1, if_neg (by omega)]; exact hT.2.2.2 (8 + 5 * i) (by omega) (by omega))).2) (fun u3 ⟨h_u3, e_u3⟩ => ?_)
                              refine g_sipush F dL_court_369 (1032) (by decide) ?_
                              refine g_icmp_ne 404 F dL_court_372 (by decide) (by decide) rfl (fun c_12 => ?_) (fun c_12 => ?_)
                              · skip
                                exact absurd rfl c_12
                              · skip
                                refine g_aload_n F dL_court_375 rfl 2 rfl ?_
                                refine g_iconst F dL_court_376 (0) (by decide) ?_
                                refine g_iload F dL_court_377 0 rfl ?_
                                refine g_iconst F dL_court_379 (3) (by decide) ?_
                                refine g_iadd F dL_court_380 ?_
                                refine g_topi (b := 9 + 5 * i) (by omega) ?_
                                refine g_bipush F dL_court_381 (48) (by decide) ?_
                                refine g_aload_n F dL_court_383 rfl 4 rfl ?_
                                refine g_bipush F dL_court_384 (23) (by decide) ?_
                                refine g_iload F dL_court_386 7 rfl ?_
                                refine g_iadd F dL_court_388 ?_
                                refine ga_41 F (by omega) dL_court_389 ?_
                                refine g_topi (b := b3) (m_w1.1.2.2.2) ?_
                                refine g_iadd F dL_court_390 ?_
                                refine g_callV 3 F (As := [.int (J (0)), .int (J (9 + 5 * i)), .int (J ((48) + (b3)))]) (st := []) (c_X7_put l D ad u3 w1 (0) (9 + 5 * i) ((48) + (b3)) (by omega) (by omega) (by omega) (h_u3.1)) (gR_7) rfl mk_L_24 ki_X7_put kc_X7_put (by decide +kernel) rfl (by decide) dL_court_391 rfl (Nat.le_of_ble_eq_true rfl) (pI_k ?_)
                                refine g_topi (b := 1032) ((put_ok h_u3 (i := (9 + 5 * i)) (v := (48 + b3)) (by omega) (by omega) (by rw [e_u3, if_neg (by omega), e_u2, if_neg (by omega), e_u1, if_neg (by omega)]; exact hT.2.2.2 (9 + 5 * i) (by omega) (by omega))).1) ?_
                                refine g_nm (P := fun u4 => CP x u4 ∧ ∀ j : Int, u4 20 6 j = if j = (9 + 5 * i) then (48 + b3) else u3 20 6 j) ((put_ok h_u3 (i := (9 + 5 * i)) (v := (48 + b3)) (by omega) (by omega) (by rw [e_u3, if_neg (by omega), e_u2, if_neg (by omega), e_u1, if_neg (by omega)]; exact hT.2.2.2 (9 + 5 * i) (by omega) (by omega))).2) (fun u4 ⟨h_u4, e_u4⟩ => ?_)
                                refine g_sipush F dL_court_394 (1032) (by decide) ?_
                                refine g_icmp_ne 404 F dL_court_397 (by decide) (by decide) rfl (fun c_13 => ?_) (fun c_13 => ?_)
                                · skip
                                  exact absurd rfl c_13
                                · skip
                                  refine g_iconst F dL_court_400 (1) (by decide) ?_
                                  refine g_goto F 405 dL_court_401 rfl ?_
                                  refine g_istore F [(5, .int (J (1))), (8, .int (J ((6) + ((5) * (i))))), (7, .int (J (yy))), (0, .ref (ad 7 (0))), (1, .ref b), (2, .ref (ad 41 (0))), (3, .ref (ad 42 (0))), (6, .int (J (i)))] dL_court_405 (by decide) rfl ?_
                                  refine g_iinc F [(6, .int (J (i + 1))), (5, .int (J (1))), (8, .int (J ((6) + ((5) * (i))))), (7, .int (J (yy))), (0, .ref (ad 7 (0))), (1, .ref b), (2, .ref (ad 41 (0))), (3, .ref (ad 42 (0)))] 7 rfl dL_court_407 (by decide) rfl ?_
                                  refine g_goto F 212 dL_court_410 rfl ?_
                                  refine g_sub [4, 5, 6, 7, 1, 0] (lv' := [(0, .ref (ad 7 (0))), (1, .ref b), (2, .ref (ad 41 (0))), (3, .ref (ad 42 (0))), (5, .int (J (1))), (6, .int (J (i + 1)))]) rfl ?_
                                  exact ih212 (u4) (w1) (i + 1) (⟨by omega, by rw [m_w1.2.2.1 0 (by omega)]; omega⟩) (h_u4) (GI_m hg m_w1) (GM_s hm m_w1 (by omega) h_b1 (by omega) (by omega) (by omega)) (TXP_s hT m_w1 (by omega) (by omega) e_u1 e_u2 e_u3 e_u4) (fun j a b => by rw [m_w1.2.1 42 (by decide)]; exact hv2 j a b) (by omega)
                  refine g_sub [1, 2, 3, 4, 5, 0] (lv' := [(0, .ref (ad 7 (0))), (1, .ref b), (2, .ref (ad 41 (0))), (3, .ref (ad 42 (0))), (5, .int (J (1))), (6, .int (J (0)))]) rfl ?_
                  exact L212 _ (u) (w) (0) (⟨Int.le_refl _, by have := hg.1; omega⟩) (hc) (hg) (fun q a b => by omega) (⟨h0, fun q a b => ha q a (by omega), fun q a b => by omega, fun j a b => hb j (by omega) b⟩) (fun j a b => hv j a (by omega)) (Nat.lt_succ_self _)
                · skip
                  have gk := GI_k hg (k := k) ⟨by omega, by omega⟩
                  refine g_iload F dL_court_171 4 rfl ?_
                  refine g_if_eq 200 F dL_court_173 (by decide) rfl (fun c_14 => ?_) (fun c_14 => ?_)
                  · skip
                    exact absurd c_14 (by decide)
                  · skip
                    refine g_aload_n F dL_court_176 rfl 0 rfl ?_
                    refine g_iconst F dL_court_177 (0) (by decide) ?_
                    refine g_iload F dL_court_178 5 rfl ?_
                    refine g_bipush F dL_court_180 (48) (by decide) ?_
                    refine g_aload_n F dL_court_182 rfl 2 rfl ?_
                    refine g_iload F dL_court_183 5 rfl ?_
                    refine ga_41 F (by omega) dL_court_185 ?_
                    refine g_iadd F dL_court_186 ?_
                    refine g_callV 3 F (As := [.int (J (0)), .int (J (k)), .int (J ((48) + (w 41 (k))))]) (st := []) (c_X7_put l D ad u w (0) (k) ((48) + (w 41 (k))) (by omega) (by omega) (by omega) (hc.1)) (gR_7) rfl mk_L_24 ki_X7_put kc_X7_put (by decide +kernel) rfl (by decide) dL_court_187 rfl (Nat.le_of_ble_eq_true rfl) (pI_k ?_)
                    refine g_topi (b := 1032) ((put_ok hc (i := k) (v := (48 + w 41 k)) (by omega) gk (hb k (by omega) (by omega))).1) ?_
                    refine g_nm (P := fun u1 => CP x u1 ∧ ∀ j : Int, u1 20 6 j = if j = k then (48 + w 41 k) else u 20 6 j) ((put_ok hc (i := k) (v := (48 + w 41 k)) (by omega) gk (hb k (by omega) (by omega))).2) (fun u1 ⟨h_u1, e_u1⟩ => ?_)
                    refine g_sipush F dL_court_190 (1032) (by decide) ?_
                    refine g_icmp_ne 200 F dL_court_193 (by decide) (by decide) rfl (fun c_15 => ?_) (fun c_15 => ?_)
                    · skip
                      exact absurd rfl c_15
                    · skip
                      refine g_iconst F dL_court_196 (1) (by decide) ?_
                      refine g_goto F 201 dL_court_197 rfl ?_
                      refine g_istore F [(5, .int (J (1))), (0, .ref (ad 7 (0))), (1, .ref b), (2, .ref (ad 41 (0))), (3, .ref (ad 42 (0))), (6, .int (J (k)))] dL_court_201 (by decide) rfl ?_
                      refine g_iinc F [(6, .int (J (k + 1))), (5, .int (J (1))), (0, .ref (ad 7 (0))), (1, .ref b), (2, .ref (ad 41 (0))), (3, .ref (ad 42 (0)))] 5 rfl dL_court_203 (by decide) rfl ?_
                      refine g_goto F 165 dL_court_206 rfl ?_
                      refine g_sub [2, 3, 4, 5, 1, 0] (lv' := [(0, .ref (ad 7 (0))), (1, .ref b), (2, .ref (ad 41 (0))), (3, .ref (ad 42 (0))), (5, .int (J (1))), (6, .int (J (k + 1)))]) rfl ?_
                      exact ih165 (u1) (k + 1) (by omega) (h_u1) (by rw [e_u1, if_neg (by omega)]; exact h0) (fun q a b => by rw [e_u1]; split <;> (first | (rename_i z; rw [z]; done) | exact ha q a (by omega))) (fun j a b => by rw [e_u1, if_neg (by omega)]; exact hb j (by omega) b) (by omega)
            refine g_sub [2, 3, 4, 5, 1, 0] (lv' := [(0, .ref (ad 7 (0))), (1, .ref b), (2, .ref (ad 41 (0))), (3, .ref (ad 42 (0))), (5, .int (J (1))), (6, .int (J (1)))]) rfl ?_
            exact L165 _ (v2) (1) (by omega) (h_v2) (by rw [e_v2, if_pos rfl]) (fun q a b => by omega) (fun j a b => by rw [e_v2, if_neg (by omega)]; exact b_v1 j (by omega) b) (Nat.lt_succ_self _)
      · skip
        refine g_aload_n F dL_court_96 rfl 3 rfl ?_
        refine g_iload F dL_court_97 4 rfl ?_
        refine g_iload F dL_court_99 4 rfl ?_
        refine g_if_ne 109 F dL_court_101 (by omega) rfl (fun c_16 => ?_) (fun c_16 => ?_)
        · skip
          refine g_iload F dL_court_109 4 rfl ?_
          refine g_bipush F dL_court_111 (10) (by decide) ?_
          refine g_icmp_ge 120 F dL_court_113 (by omega) (by decide) rfl (fun c_17 => ?_) (fun c_17 => ?_)
          · skip
            refine g_bipush F dL_court_120 (-9) (by decide) ?_
            refine gs_42 F (by omega) dL_court_122 ?_
            refine g_iinc F [(5, .int (J (k + 1))), (0, .ref (ad 7 (0))), (1, .ref b), (2, .ref (ad 41 (0))), (3, .ref (ad 42 (0)))] 4 rfl dL_court_123 (by decide) rfl ?_
            refine g_goto F 89 dL_court_126 rfl ?_
            refine g_sub [1, 2, 3, 4, 0] (lv' := [(0, .ref (ad 7 (0))), (1, .ref b), (2, .ref (ad 41 (0))), (3, .ref (ad 42 (0))), (5, .int (J (k + 1)))]) rfl ?_
            exact ih89 ((yU w 42 (k) (-9))) (k + 1) (by omega) (GI_42 hg) (vi_s hv (by omega) (by (repeat' split) <;> omega)) (by omega)
          · skip
            refine g_iconst F dL_court_116 (0) (by decide) ?_
            refine g_goto F 122 dL_court_117 rfl ?_
            refine gs_42 F (by omega) dL_court_122 ?_
            refine g_iinc F [(5, .int (J (k + 1))), (0, .ref (ad 7 (0))), (1, .ref b), (2, .ref (ad 41 (0))), (3, .ref (ad 42 (0)))] 4 rfl dL_court_123 (by decide) rfl ?_
            refine g_goto F 89 dL_court_126 rfl ?_
            refine g_sub [1, 2, 3, 4, 0] (lv' := [(0, .ref (ad 7 (0))), (1, .ref b), (2, .ref (ad 41 (0))), (3, .ref (ad 42 (0))), (5, .int (J (k + 1)))]) rfl ?_
            exact ih89 ((yU w 42 (k) (0))) (k + 1) (by omega) (GI_42 hg) (vi_s hv (by omega) (by (repeat' split) <;> omega)) (by omega)
        · skip
          refine g_bipush F dL_court_104 (8) (by decide) ?_
          refine g_goto F 122 dL_court_106 rfl ?_
          refine gs_42 F (by omega) dL_court_122 ?_
          refine g_iinc F [(5, .int (J (k + 1))), (0, .ref (ad 7 (0))), (1, .ref b), (2, .ref (ad 41 (0))), (3, .ref (ad 42 (0)))] 4 rfl dL_court_123 (by decide) rfl ?_
          refine g_goto F 89 dL_court_126 rfl ?_
          refine g_sub [1, 2, 3, 4, 0] (lv' := [(0, .ref (ad 7 (0))), (1, .ref b), (2, .ref (ad 41 (0))), (3, .ref (ad 42 (0))), (5, .int (J (k + 1)))]) rfl ?_
          exact ih89 ((yU w 42 (k) (8))) (k + 1) (by omega) (GI_42 hg) (vi_s hv (by omega) (by (repeat' split) <;> omega)) (by omega)
  refine g_aload_n F dL_court_57 rfl 3 rfl ?_
  refine g_iconst F dL_court_58 (4) (by decide) ?_
  refine g_iconst F dL_court_59 (1) (by decide) ?_
  refine g_iload F dL_court_60 0 rfl ?_
  refine g_bipush F dL_court_62 (13) (by decide) ?_
  refine g_ishr F dL_court_64 (shZ xx 13) (J_sh xx 13) ?_
  refine g_iload F dL_court_65 0 rfl ?_
  refine g_bipush F dL_court_67 (20) (by decide) ?_
  refine g_ishr F dL_court_69 (shZ xx 20) (J_sh xx 20) ?_
  refine g_iconst F dL_court_70 (1) (by decide) ?_
  refine g_iand F dL_court_71 (anZ (shZ xx 20) 1) (J_an (shZ xx 20) 1) ?_
  have r20 := anZ_r (a := shZ xx 20) (m := 1) (by decide)
  refine g_if_ne 79 F dL_court_72 (by omega) rfl (fun c_18 => ?_) (fun c_18 => ?_)
  · skip
    refine g_bipush F dL_court_79 (6) (by decide) ?_
    refine g_callS 2 F (As := [.int (J (shZ xx 13)), .int (J (6))]) (st := [.int (J (1)), .int (J (4)), .ref (ad 41 (0))]) (c_L_low l D ad x (yU (yU (yU (yU y 41 (0) ((1) + (a0))) 41 (1) ((1) + (a1))) 41 (2) (a2)) 41 (3) (a3)) (shZ xx 13) (6) (by omega)) rfl mk_L_15 ki_L_low kc_L_low (by decide +kernel) rfl (by decide) dL_court_81 rfl (Nat.le_of_ble_eq_true rfl) (pI_k ?_)
    refine g_nmi (P := fun a4 => 0 ≤ a4 ∧ a4 < 6) (lwZ_6 (by decide)) (fun a4 h_a4 => ?_)
    refine g_iadd F dL_court_84 ?_
    refine gs_41 F (by decide) dL_court_85 ?_
    refine g_nmy (P := fun w0 => GI (w0 41)) (GI_5 h_a0 h_a1 h_a2 h_a3 h_a4) (fun w0 h_w0 => ?_)
    refine g_iconst F dL_court_86 (0) (by decide) ?_
    refine g_istore F [(5, .int (J (0))), (4, .int (J (xx))), (0, .ref (ad 7 (0))), (1, .ref b), (2, .ref (ad 41 (0))), (3, .ref (ad 42 (0)))] dL_court_87 (by decide) rfl ?_
    refine g_sub [2, 3, 4, 5, 0] (lv' := [(0, .ref (ad 7 (0))), (1, .ref b), (2, .ref (ad 41 (0))), (3, .ref (ad 42 (0))), (5, .int (J (0)))]) rfl ?_
    exact L89 _ (w0) (0) (by omega) (h_w0) (fun j a b => by omega) (Nat.lt_succ_self _)
  · skip
    refine g_iconst F dL_court_75 (3) (by decide) ?_
    refine g_goto F 81 dL_court_76 rfl ?_
    refine g_callS 2 F (As := [.int (J (shZ xx 13)), .int (J (3))]) (st := [.int (J (1)), .int (J (4)), .ref (ad 41 (0))]) (c_L_low l D ad x (yU (yU (yU (yU y 41 (0) ((1) + (a0))) 41 (1) ((1) + (a1))) 41 (2) (a2)) 41 (3) (a3)) (shZ xx 13) (3) (by omega)) rfl mk_L_15 ki_L_low kc_L_low (by decide +kernel) rfl (by decide) dL_court_81 rfl (Nat.le_of_ble_eq_true rfl) (pI_k ?_)
    refine g_nmi (P := fun a4 => 0 ≤ a4 ∧ a4 < 6) (lwZ_6 (by decide)) (fun a4 h_a4 => ?_)
    refine g_iadd F dL_court_84 ?_
    refine gs_41 F (by decide) dL_court_85 ?_
    refine g_nmy (P := fun w0 => GI (w0 41)) (GI_5 h_a0 h_a1 h_a2 h_a3 h_a4) (fun w0 h_w0 => ?_)
    refine g_iconst F dL_court_86 (0) (by decide) ?_
    refine g_istore F [(5, .int (J (0))), (4, .int (J (xx))), (0, .ref (ad 7 (0))), (1, .ref b), (2, .ref (ad 41 (0))), (3, .ref (ad 42 (0)))] dL_court_87 (by decide) rfl ?_
    refine g_sub [2, 3, 4, 5, 0] (lv' := [(0, .ref (ad 7 (0))), (1, .ref b), (2, .ref (ad 41 (0))), (3, .ref (ad 42 (0))), (5, .int (J (0)))]) rfl ?_
    exact L89 _ (w0) (0) (by omega) (h_w0) (fun j a b => by omega) (Nat.lt_succ_self _)
