theorem lo_h {Z : gX} {w : gY} {L N H : Int} (hRel : Rel Z w) (eN : Z 16 0 0 = N) (hn : N < 40) (hL : 0 ≤ L) (h10 : Z 10 0 0 ≠ 0) (e : L % 3 = 0) (eH : H = kH (Z 15 0 0 + (L / 8 % 11 - 5))) : Rel (loM Z L) (yU (kpY w N) 40 1 H) := by
  subst eN
  rw [eH]
  unfold loM
  rw [if_pos e]
  exact Rel_kp hRel hn ((wOK_lo hRel.1.1 h10 hL).1 e) (fun q => absurd q (by decide)) (fun q => absurd q (by decide)) (heat_SB hRel.1.2.2.1.1.1.1 (Rel_SB hRel)) (fun j hj => by rw [yU_j (by omega)]) (fun k hk => by rw [yU_k hk, kp_k _ _ hk])
theorem lo_t {Z : gX} {w u : gY} {L N i : Int} (hRel : Rel Z w) (eN : Z 16 0 0 = N) (hn : N < 40) (hL : 0 ≤ L) (h10 : Z 10 0 0 ≠ 0) (e : ¬ L % 3 = 0) (ei : L / 8 % Z 10 0 0 = i) (h6 : Z 6 i 0 = -9) (hT : TRP Z (kpY w N) u 0 i) : Rel (loM Z L) u := by
  subst eN
  have hw := ((wOK_lo hRel.1.1 h10 hL).2 e).2
  have ed : duU Z i = 2 := if_pos h6
  rw [ei, ed] at hw
  unfold loM
  rw [if_neg e, ei, ed]
  exact Rel_kp hRel hn hw (fun q => absurd q (by decide)) (fun _ => h6) hT.2.2 (fun j hj => hT.2.1 j (by omega)) (fun k hk => by rw [hT.1 k hk, kp_k _ _ hk])
theorem lo_s {Z : gX} {w : gY} {L N i V : Int} (hRel : Rel Z w) (eN : Z 16 0 0 = N) (hn : N < 40) (hL : 0 ≤ L) (h10 : Z 10 0 0 ≠ 0) (e : ¬ L % 3 = 0) (ei : L / 8 % Z 10 0 0 = i) (h6 : ¬ Z 6 i 0 = -9) (h5 : Z 5 i 0 < 3) (eV : V = Z 5 i 0 + 1) : Rel (loM Z L) (yU (kpY w N) 40 (5 + i) V) := by
  subst eN
  have hq := (wOK_lo hRel.1.1 h10 hL).2 e
  have hw := hq.2
  have hi := hq.1
  have ed : duU Z i = 1 := by unfold duU; rw [if_neg h6, if_pos h5]
  rw [ei, ed] at hw
  rw [ei] at hi
  unfold loM
  rw [if_neg e, ei, ed, eV]
  have h6' := hRel.1.1.2.1.2
  exact Rel_kp hRel hn hw (fun _ => h5) (fun q => absurd q (by decide)) (salve_SB hRel.1.2.2.1.1.1.1 h6' hi.1 hi.2 (Rel_SB hRel)) (fun j hj => by rw [yU_j (by omega)]) (fun k hk => by rw [yU_k hk, kp_k _ _ hk])
theorem lo_n {Z : gX} {w : gY} {L N i : Int} (hRel : Rel Z w) (eN : Z 16 0 0 = N) (hn : N < 40) (hL : 0 ≤ L) (h10 : Z 10 0 0 ≠ 0) (e : ¬ L % 3 = 0) (ei : L / 8 % Z 10 0 0 = i) (h6 : ¬ Z 6 i 0 = -9) (h5 : ¬ Z 5 i 0 < 3) : Rel (loM Z L) (kpY w N) := by
  subst eN
  have hw := ((wOK_lo hRel.1.1 h10 hL).2 e).2
  have ed : duU Z i = 3 := by unfold duU; rw [if_neg h6, if_neg h5]
  rw [ei, ed] at hw
  unfold loM
  rw [if_neg e, ei, ed]
  exact Rel_kp hRel hn hw (fun q => absurd q (by decide)) (fun q => absurd q (by decide)) (by rw [actM_w3 (by decide)]; exact kp_SB hRel.1.2.2.1.1.1.1 (Rel_SB hRel)) (fun j hj => rfl) (fun k hk => kp_k _ _ hk)
set_option maxHeartbeats 4000000 in
set_option maxRecDepth 20000 in
theorem c_X8_lots (l : Launch) (D : gD) (ad : gA) (x : gX) (y : gY) (z : gX) (n s : Int) (hn : i32 n) (hs : i32 s) (hRel : Rel z y) : gC l D ad 7 yX8_lots cX8_lots 8 (some .int) [.ref (ad 8 (0)), .int (J (n)), .int (J (s))] x y (pH (.int (J ((sLots z n s).1))) (x) (fun w9 => Rel (sLots z n s).2 w9)) := by
  refine g_met RX8 rfl (by decide +kernel) [(0, .ref (ad 8 (0))), (1, .int (J (n))), (2, .int (J (s)))] rfl (Nat.le_of_ble_eq_true rfl) (fun Θ F hR => ?_)
  have hN := hRel.1.1
  have hRW := hRel.1.2.1
  have hDD := hRel.1.2.2.1
  have hST := hRel.2.1
  have hB := Rel_SB hRel
  have h10 := hN.2.1
  have h15 := hN.2.2.1
  have hds := hDD.1.1
  have h400 : y 40 0 = z 16 0 0 := by have q := (hRel.2.2.1 0 (by decide) (by decide)).1; exact q
  refine g_iload_n F dX8_lots_0 rfl 1 rfl ?_
  refine g_i2l F dX8_lots_1 (by omega) ?_
  refine g_lconst F dX8_lots_2 1 (by decide) ?_
  refine g_ldc2 F ck_X8_300 dX8_lots_3 (20) (by decide) ?_
  refine g_callS 3 F (As := [.long (Lg (n)), .long (Lg (1)), .long (Lg (20))]) (st := []) (c_X8_in l D ad x y (n) (1) (20) (by omega) (by omega) (by omega)) rfl mk_X8_74 ki_X8_in kc_X8_in (by decide +kernel) rfl (by decide) dX8_lots_6 rfl (Nat.le_of_ble_eq_true rfl) (pB_k ?_)
  refine g_ifb_eq 24 F dX8_lots_9 rfl (fun c_1 => ?_) (fun c_1 => ?_)
  · skip
    refine g_iconst F dX8_lots_24 (-1) (by decide) ?_
    exact g_ireturn F hR dX8_lots_25 (pH_z (by unfold sLots; first | (rw [if_pos (by omega)]; done) | (rw [if_neg (by omega), if_pos (by omega)]; done) | (rw [if_neg (by omega), if_neg (by omega), if_pos (by omega)]; done) | (rw [if_neg (by omega), if_neg (by omega), if_neg (by omega), show n = j by omega]; done)) (by unfold sLots; first | (rw [if_pos (by omega)]; exact hRel) | (rw [if_neg (by omega), if_pos (by omega)]; exact hRel) | (rw [if_neg (by omega), if_neg (by omega), if_pos (by omega)]; exact hRel) | (rw [if_neg (by omega), if_neg (by omega), if_neg (by omega), show n = j by omega]; exact hw)) rfl)
  · skip
    refine g_iload_n F dX8_lots_12 rfl 2 rfl ?_
    refine g_i2l F dX8_lots_13 (by omega) ?_
    refine g_lconst F dX8_lots_14 1 (by decide) ?_
    refine g_ldc2 F ck_X8_302 dX8_lots_15 (2147483646) (by decide) ?_
    refine g_callS 3 F (As := [.long (Lg (s)), .long (Lg (1)), .long (Lg (2147483646))]) (st := []) (c_X8_in l D ad x y (s) (1) (2147483646) (by omega) (by omega) (by omega)) rfl mk_X8_74 ki_X8_in kc_X8_in (by decide +kernel) rfl (by decide) dX8_lots_18 rfl (Nat.le_of_ble_eq_true rfl) (pB_k ?_)
    refine g_ifb_ne 26 F dX8_lots_21 rfl (fun c_2 => ?_) (fun c_2 => ?_)
    · skip
      refine g_aload_n F dX8_lots_26 rfl 0 rfl ?_
      refine gg_Model_men F fk_X8_157 dX8_lots_27 ?_
      refine g_topi (b := z 10 0 0) (hST.2.2.2.2.1) ?_
      refine g_if_ne 36 F dX8_lots_30 (by omega) rfl (fun c_3 => ?_) (fun c_3 => ?_)
      · skip
        refine g_aload_n F dX8_lots_36 rfl 0 rfl ?_
        refine gg_Model_row F fk_X8_7 dX8_lots_37 ?_
        refine g_iconst F dX8_lots_40 (0) (by decide) ?_
        refine ga_40 F (by decide) dX8_lots_41 ?_
        refine g_topi (b := z 16 0 0) (h400) ?_
        refine g_iload_n F dX8_lots_42 rfl 1 rfl ?_
        refine g_iadd F dX8_lots_43 ?_
        refine g_bipush F dX8_lots_44 (40) (by decide) ?_
        refine g_icmp_le 52 F dX8_lots_46 (by omega) (by decide) rfl (fun c_4 => ?_) (fun c_4 => ?_)
        · skip
          refine g_iload_n F dX8_lots_52 rfl 2 rfl ?_
          refine g_i2l F dX8_lots_53 (by omega) ?_
          refine g_lstore_n F [(3, .long (Lg (s))), (0, .ref (ad 8 (0))), (1, .int (J (n))), (2, .int (J (s)))] dX8_lots_54 rfl (by decide) rfl ?_
          refine g_aload_n F dX8_lots_55 rfl 1 rfl ?_
          refine gg_Model_row F fk_X8_7 dX8_lots_56 ?_
          refine g_iconst F dX8_lots_59 (4) (by decide) ?_
          refine ga_40 F (by decide) dX8_lots_60 ?_
          refine g_topi (b := twU z) (SB_03 hB) ?_
          refine g_istore F [(5, .int (J (twU z))), (3, .long (Lg (s))), (0, .ref (ad 8 (0))), (1, .int (J (n))), (2, .int (J (s)))] dX8_lots_61 (by decide) rfl ?_
          refine g_iconst F dX8_lots_63 (0) (by decide) ?_
          refine g_istore F [(6, .int (J (0))), (5, .int (J (twU z))), (3, .long (Lg (s))), (0, .ref (ad 8 (0))), (1, .int (J (n))), (2, .int (J (s)))] dX8_lots_64 (by decide) rfl ?_
          have L66 : ∀ (N : Nat) (w : gY) (j : Int), 0 ≤ j ∧ j ≤ n → Rel (loZ z s j) w → (n - j).toNat < N → gW Θ l D ad 8 66 [(0, .ref (ad 8 (0))), (1, .int (J (n))), (3, .long (Lg (ltZ s j))), (5, .int (J (twU z))), (6, .int (J (j)))] [] x w := by
            intro N
            induction N with
            | zero => intro w j hj hw hFu; omega
            | succ N ih66 =>
              intro w j hj hw hFu
              have hZ : NOK (loZ z s j) ∧ loZ z s j 10 = z 10 ∧ loZ z s j 16 0 0 = z 16 0 0 + j := loZ_ok (by omega) hN (by omega) (by omega)
              have hL := ltZ_r (s := s) (by omega) j
              have hL1 := ltZ_r (s := s) (by omega) (j + 1)
              have hLs := ltZ_s s hj.1
              have e10 : loZ z s j 10 0 0 = z 10 0 0 := by rw [hZ.2.1]
              have hSTw := hw.2.1
              have hBw := Rel_SB hw
              have hn0 : 0 ≤ z 16 0 0 + j ∧ z 16 0 0 + j ≤ 40 := by omega
              have h15w := hZ.1.2.2.1
              have h40w : w 40 0 = z 16 0 0 + j := by have q := (hw.2.2.1 0 (by decide) (by decide)).1; rw [hZ.2.2] at q; exact q
              have hwm : 0 ≤ ltZ s (j + 1) / 8 % z 10 0 0 ∧ ltZ s (j + 1) / 8 % z 10 0 0 < z 10 0 0 := ⟨Int.emod_nonneg _ (by omega), Int.emod_lt_of_pos _ (by omega)⟩
              refine g_iload F dX8_lots_66 4 rfl ?_
              refine g_iload_n F dX8_lots_68 rfl 1 rfl ?_
              refine g_icmp_ge 193 F dX8_lots_69 (by omega) (by omega) rfl (fun c_5 => ?_) (fun c_5 => ?_)
              · skip
                refine g_aload_n F dX8_lots_193 rfl 0 rfl ?_
                refine gg_Model_row F fk_X8_7 dX8_lots_194 ?_
                refine g_iconst F dX8_lots_197 (4) (by decide) ?_
                have ht0 := twU_r hN
                have ht1 := twU_r hZ.1
                refine ga_40 F (by decide) dX8_lots_198 ?_
                refine g_topi (b := twU (loZ z s j)) (SB_03 hBw) ?_
                refine g_iload F dX8_lots_199 3 rfl ?_
                refine g_isub F dX8_lots_201 ?_
                exact g_ireturn F hR dX8_lots_202 (pH_z (by unfold sLots; first | (rw [if_pos (by omega)]; done) | (rw [if_neg (by omega), if_pos (by omega)]; done) | (rw [if_neg (by omega), if_neg (by omega), if_pos (by omega)]; done) | (rw [if_neg (by omega), if_neg (by omega), if_neg (by omega), show n = j by omega]; done)) (by unfold sLots; first | (rw [if_pos (by omega)]; exact hRel) | (rw [if_neg (by omega), if_pos (by omega)]; exact hRel) | (rw [if_neg (by omega), if_neg (by omega), if_pos (by omega)]; exact hRel) | (rw [if_neg (by omega), if_neg (by omega), if_neg (by omega), show n = j by omega]; exact hw)) rfl)
              · skip
                have hnN : z 16 0 0 + j < 40 := by omega
                have hz10 : loZ z s j 10 0 0 ≠ 0 := by rw [e10]; omega
                refine g_lload_n F dX8_lots_72 rfl 2 rfl ?_
                refine g_ldc2 F ck_X8_304 dX8_lots_73 (48271) (by decide) ?_
                refine g_lmul F dX8_lots_76 ?_
                refine g_ldc2 F ck_X8_306 dX8_lots_77 (2147483647) (by decide) ?_
                refine g_lremp F dX8_lots_80 (by omega) (by decide) (by omega) (by decide) ?_
                refine g_topl (b := ltZ s (j + 1)) (hLs.symm) ?_
                refine g_lstore_n F [(3, .long (Lg (ltZ s (j + 1)))), (0, .ref (ad 8 (0))), (1, .int (J (n))), (5, .int (J (twU z))), (6, .int (J (j)))] dX8_lots_81 rfl (by decide) rfl ?_
                refine g_lload_n F dX8_lots_82 rfl 0 rfl ?_
                refine g_ldc2 F ck_X8_194 dX8_lots_83 (8) (by decide) ?_
                refine g_ldivp F dX8_lots_86 (by omega) (by decide) (by omega) (by decide) ?_
                refine g_aload_n F dX8_lots_87 rfl 1 rfl ?_
                have hdi : 0 ≤ ltZ s (j + 1) / 8 ∧ ltZ s (j + 1) / 8 < 2147483647 := by omega
                refine gg_Model_men F fk_X8_157 dX8_lots_88 ?_
                refine g_topi (b := z 10 0 0) (by first | exact hSTw.2.2.2.2.1.trans e10 | (rw [kp_k _ _ (by decide)]; exact hSTw.2.2.2.2.1.trans e10)) ?_
                refine g_i2l F dX8_lots_91 (by omega) ?_
                refine g_lremp F dX8_lots_92 (by omega) (by omega) (by omega) (by omega) ?_
                refine g_l2i F dX8_lots_93 ?_
                refine g_istore F [(7, .int (J (((ltZ s (j + 1)) / (8)) % (z 10 0 0)))), (3, .long (Lg (ltZ s (j + 1)))), (0, .ref (ad 8 (0))), (1, .int (J (n))), (5, .int (J (twU z))), (6, .int (J (j)))] dX8_lots_94 (by decide) rfl ?_
                refine g_aload_n F dX8_lots_96 rfl 2 rfl ?_
                refine g_callV 0 F (As := []) (st := []) (c_X8_keepPast l D ad x w (z 16 0 0 + j) (h40w) (by omega)) (gR_8) rfl mk_X8_210 ki_X8_keepPast kc_X8_keepPast (by decide +kernel) rfl (by decide) dX8_lots_97 rfl (Nat.le_of_ble_eq_true rfl) (pV_k ?_)
                refine g_lload_n F dX8_lots_100 rfl 1 rfl ?_
                refine g_ldc2 F ck_X8_78 dX8_lots_101 (3) (by decide) ?_
                refine g_lremp F dX8_lots_104 (by omega) (by decide) (by omega) (by decide) ?_
                refine g_lconst F dX8_lots_105 0 (by decide) ?_
                refine g_lcmp_ne 141 F dX8_lots_106 dX8_lots_107 (by omega) (by decide) rfl (fun c_6 => ?_) (fun c_6 => ?_)
                · skip
                  have hl1 : ¬ ltZ s (j + 1) % 3 = 0 := by omega
                  refine g_aload_n F dX8_lots_141 rfl 2 rfl ?_
                  refine g_iload F dX8_lots_142 0 rfl ?_
                  refine g_callV 1 F (As := [.int (J (((ltZ s (j + 1)) / (8)) % (z 10 0 0)))]) (st := []) (c_X8_isDone l D ad x (kpY w (z 16 0 0 + j)) (loZ z s j) (((ltZ s (j + 1)) / (8)) % (z 10 0 0)) (kp_ST hSTw) (hZ.1) (kp_SB hn0.1 hBw) (by rw [e10]; exact hwm)) (gR_8) rfl mk_X8_219 ki_X8_isDone kc_X8_isDone (by decide +kernel) rfl (by decide) dX8_lots_144 rfl (Nat.le_of_ble_eq_true rfl) (pB_k ?_)
                  refine g_ifb_ne 161 F dX8_lots_147 rfl (fun c_7 => ?_) (fun c_7 => ?_)
                  · skip
                    have h6d : ¬ loZ z s j 6 (ltZ s (j + 1) / 8 % z 10 0 0) 0 = -9 := c_7
                    have hm := hZ.1.2.2.2 (ltZ s (j + 1) / 8 % z 10 0 0) hwm.1 (by rw [e10]; exact hwm.2)
                    refine g_aload_n F dX8_lots_161 rfl 2 rfl ?_
                    refine gg_Model_row F fk_X8_7 dX8_lots_162 ?_
                    refine g_iconst F dX8_lots_165 (5) (by decide) ?_
                    refine g_iload F dX8_lots_166 0 rfl ?_
                    refine g_iadd F dX8_lots_168 ?_
                    refine ga_40 F (by omega) dX8_lots_169 ?_
                    refine g_topi (b := loZ z s j 5 (ltZ s (j + 1) / 8 % z 10 0 0) 0) (by rw [kp_h _ hn0.1 (by omega) (by omega)]; exact SB_05 hBw hZ.1.2.1.2 (by omega) (by rw [e10]; omega)) ?_
                    refine g_iconst F dX8_lots_170 (3) (by decide) ?_
                    refine g_icmp_ge 187 F dX8_lots_171 (by omega) (by decide) rfl (fun c_8 => ?_) (fun c_8 => ?_)
                    · skip
                      have h5n : ¬ loZ z s j 5 (ltZ s (j + 1) / 8 % z 10 0 0) 0 < 3 := by omega
                      refine g_iinc F [(6, .int (J (j + 1))), (7, .int (J (((ltZ s (j + 1)) / (8)) % (z 10 0 0)))), (3, .long (Lg (ltZ s (j + 1)))), (0, .ref (ad 8 (0))), (1, .int (J (n))), (5, .int (J (twU z)))] 5 rfl dX8_lots_187 (by decide) rfl ?_
                      refine g_goto F 66 dX8_lots_190 rfl ?_
                      refine g_sub [3, 4, 2, 5, 0] (lv' := [(0, .ref (ad 8 (0))), (1, .int (J (n))), (3, .long (Lg (ltZ s (j + 1)))), (5, .int (J (twU z))), (6, .int (J (j + 1)))]) rfl ?_
                      exact ih66 ((kpY w (z 16 0 0 + j))) (j + 1) (by omega) (by rw [loZ_s z s hj.1]; first | exact lo_h hw hZ.2.2 hnN hL1.1 hz10 hl0 (by rw [Int.add_sub_assoc]) | exact lo_t hw hZ.2.2 hnN hL1.1 hz10 hl1 (by rw [e10]) h6n hG_154 | exact lo_s hw hZ.2.2 hnN hL1.1 hz10 hl1 (by rw [e10]) h6d h5l rfl | exact lo_n hw hZ.2.2 hnN hL1.1 hz10 hl1 (by rw [e10]) h6d h5n) (by omega)
                    · skip
                      have h5l : loZ z s j 5 (ltZ s (j + 1) / 8 % z 10 0 0) 0 < 3 := by omega
                      refine g_aload_n F dX8_lots_174 rfl 2 rfl ?_
                      refine gg_Model_row F fk_X8_7 dX8_lots_175 ?_
                      refine g_iconst F dX8_lots_178 (5) (by decide) ?_
                      refine g_iload F dX8_lots_179 0 rfl ?_
                      refine g_iadd F dX8_lots_181 ?_
                      refine g_dup2 F dX8_lots_182 rfl rfl ?_
                      refine ga_40 F (by omega) dX8_lots_183 ?_
                      refine g_topi (b := loZ z s j 5 (ltZ s (j + 1) / 8 % z 10 0 0) 0) (by rw [kp_h _ hn0.1 (by omega) (by omega)]; exact SB_05 hBw hZ.1.2.1.2 (by omega) (by rw [e10]; omega)) ?_
                      refine g_iconst F dX8_lots_184 (1) (by decide) ?_
                      refine g_iadd F dX8_lots_185 ?_
                      refine gs_40 F (by omega) dX8_lots_186 ?_
                      refine g_iinc F [(6, .int (J (j + 1))), (7, .int (J (((ltZ s (j + 1)) / (8)) % (z 10 0 0)))), (3, .long (Lg (ltZ s (j + 1)))), (0, .ref (ad 8 (0))), (1, .int (J (n))), (5, .int (J (twU z)))] 5 rfl dX8_lots_187 (by decide) rfl ?_
                      refine g_goto F 66 dX8_lots_190 rfl ?_
                      refine g_sub [3, 4, 2, 5, 0] (lv' := [(0, .ref (ad 8 (0))), (1, .int (J (n))), (3, .long (Lg (ltZ s (j + 1)))), (5, .int (J (twU z))), (6, .int (J (j + 1)))]) rfl ?_
                      exact ih66 ((yU (kpY w (z 16 0 0 + j)) 40 ((5) + (((ltZ s (j + 1)) / (8)) % (z 10 0 0))) ((loZ z s j 5 (ltZ s (j + 1) / 8 % z 10 0 0) 0) + (1)))) (j + 1) (by omega) (by rw [loZ_s z s hj.1]; first | exact lo_h hw hZ.2.2 hnN hL1.1 hz10 hl0 (by rw [Int.add_sub_assoc]) | exact lo_t hw hZ.2.2 hnN hL1.1 hz10 hl1 (by rw [e10]) h6n hG_154 | exact lo_s hw hZ.2.2 hnN hL1.1 hz10 hl1 (by rw [e10]) h6d h5l rfl | exact lo_n hw hZ.2.2 hnN hL1.1 hz10 hl1 (by rw [e10]) h6d h5n) (by omega)
                  · skip
                    have h6n : loZ z s j 6 (ltZ s (j + 1) / 8 % z 10 0 0) 0 = -9 := by omega
                    have h7w := INV_UW hw.1 (ltZ s (j + 1) / 8 % z 10 0 0) hwm.1 (by rw [e10]; exact hwm.2) (by omega)
                    refine g_aload_n F dX8_lots_150 rfl 2 rfl ?_
                    refine g_iconst F dX8_lots_151 (0) (by decide) ?_
                    refine g_iload F dX8_lots_152 0 rfl ?_
                    refine g_callV 2 F (As := [.int (J (0)), .int (J (((ltZ s (j + 1)) / (8)) % (z 10 0 0)))]) (st := []) (c_X8_tryAt l D ad x (kpY w (z 16 0 0 + j)) (loZ z s j) (0) (((ltZ s (j + 1)) / (8)) % (z 10 0 0)) (kp_ST hSTw) (hZ.1) (kp_SB hn0.1 hBw) (by rw [e10]; exact hwm) (by omega) (by omega) (h7w)) (gR_8) rfl mk_X8_229 ki_X8_tryAt kc_X8_tryAt (by decide +kernel) rfl (by decide) dX8_lots_154 rfl (Nat.le_of_ble_eq_true rfl) (pH_k (fun v_154 hG_154 => ?_))
                    refine g_pop F dX8_lots_157 rfl ?_
                    refine g_goto F 187 dX8_lots_158 rfl ?_
                    refine g_iinc F [(6, .int (J (j + 1))), (7, .int (J (((ltZ s (j + 1)) / (8)) % (z 10 0 0)))), (3, .long (Lg (ltZ s (j + 1)))), (0, .ref (ad 8 (0))), (1, .int (J (n))), (5, .int (J (twU z)))] 5 rfl dX8_lots_187 (by decide) rfl ?_
                    refine g_goto F 66 dX8_lots_190 rfl ?_
                    refine g_sub [3, 4, 2, 5, 0] (lv' := [(0, .ref (ad 8 (0))), (1, .int (J (n))), (3, .long (Lg (ltZ s (j + 1)))), (5, .int (J (twU z))), (6, .int (J (j + 1)))]) rfl ?_
                    exact ih66 (v_154) (j + 1) (by omega) (by rw [loZ_s z s hj.1]; first | exact lo_h hw hZ.2.2 hnN hL1.1 hz10 hl0 (by rw [Int.add_sub_assoc]) | exact lo_t hw hZ.2.2 hnN hL1.1 hz10 hl1 (by rw [e10]) h6n hG_154 | exact lo_s hw hZ.2.2 hnN hL1.1 hz10 hl1 (by rw [e10]) h6d h5l rfl | exact lo_n hw hZ.2.2 hnN hL1.1 hz10 hl1 (by rw [e10]) h6d h5n) (by omega)
                · skip
                  have hl0 : ltZ s (j + 1) % 3 = 0 := by omega
                  refine g_aload_n F dX8_lots_110 rfl 2 rfl ?_
                  refine gg_Model_row F fk_X8_7 dX8_lots_111 ?_
                  refine g_iconst F dX8_lots_114 (1) (by decide) ?_
                  refine g_aload_n F dX8_lots_115 rfl 2 rfl ?_
                  refine gg_Model_row F fk_X8_7 dX8_lots_116 ?_
                  refine g_iconst F dX8_lots_119 (1) (by decide) ?_
                  refine ga_40 F (by decide) dX8_lots_120 ?_
                  refine g_topi (b := loZ z s j 15 0 0) (by rw [kp_h _ hn0.1 (by decide) (by decide)]; exact SB_00 hBw) ?_
                  refine g_lload_n F dX8_lots_121 rfl 1 rfl ?_
                  refine g_ldc2 F ck_X8_194 dX8_lots_122 (8) (by decide) ?_
                  refine g_ldivp F dX8_lots_125 (by omega) (by decide) (by omega) (by decide) ?_
                  refine g_ldc2 F ck_X8_308 dX8_lots_126 (11) (by decide) ?_
                  refine g_lremp F dX8_lots_129 (by omega) (by decide) (by omega) (by decide) ?_
                  refine g_l2i F dX8_lots_130 ?_
                  refine g_iadd F dX8_lots_131 ?_
                  refine g_iconst F dX8_lots_132 (5) (by decide) ?_
                  refine g_isub F dX8_lots_133 ?_
                  refine g_callS 1 F (As := [.int (J (((loZ z s j 15 0 0) + (((ltZ s (j + 1)) / (8)) % (11))) - (5)))]) (st := [.int (J (1)), .ref (ad 40 (0))]) (c_X8_heatOf l D ad x (kpY w (z 16 0 0 + j)) (((loZ z s j 15 0 0) + (((ltZ s (j + 1)) / (8)) % (11))) - (5)) (by omega)) rfl mk_X8_213 ki_X8_heatOf kc_X8_heatOf (by decide +kernel) rfl (by decide) dX8_lots_134 rfl (Nat.le_of_ble_eq_true rfl) (pI_k ?_)
                  refine gs_40 F (by decide) dX8_lots_137 ?_
                  refine g_goto F 187 dX8_lots_138 rfl ?_
                  refine g_iinc F [(6, .int (J (j + 1))), (7, .int (J (((ltZ s (j + 1)) / (8)) % (z 10 0 0)))), (3, .long (Lg (ltZ s (j + 1)))), (0, .ref (ad 8 (0))), (1, .int (J (n))), (5, .int (J (twU z)))] 5 rfl dX8_lots_187 (by decide) rfl ?_
                  refine g_goto F 66 dX8_lots_190 rfl ?_
                  refine g_sub [3, 4, 2, 5, 0] (lv' := [(0, .ref (ad 8 (0))), (1, .int (J (n))), (3, .long (Lg (ltZ s (j + 1)))), (5, .int (J (twU z))), (6, .int (J (j + 1)))]) rfl ?_
                  exact ih66 ((yU (kpY w (z 16 0 0 + j)) 40 (1) (kH (((loZ z s j 15 0 0) + (((ltZ s (j + 1)) / (8)) % (11))) - (5))))) (j + 1) (by omega) (by rw [loZ_s z s hj.1]; first | exact lo_h hw hZ.2.2 hnN hL1.1 hz10 hl0 (by rw [Int.add_sub_assoc]) | exact lo_t hw hZ.2.2 hnN hL1.1 hz10 hl1 (by rw [e10]) h6n hG_154 | exact lo_s hw hZ.2.2 hnN hL1.1 hz10 hl1 (by rw [e10]) h6d h5l rfl | exact lo_n hw hZ.2.2 hnN hL1.1 hz10 hl1 (by rw [e10]) h6d h5n) (by omega)
          refine g_sub [3, 4, 2, 1, 0] (lv' := [(0, .ref (ad 8 (0))), (1, .int (J (n))), (3, .long (Lg (s))), (5, .int (J (twU z))), (6, .int (J (0)))]) rfl ?_
          exact L66 _ (y) (0) (by omega) (hRel) (Nat.lt_succ_self _)
        · skip
          refine g_bipush F dX8_lots_49 (-2) (by decide) ?_
          exact g_ireturn F hR dX8_lots_51 (pH_z (by unfold sLots; first | (rw [if_pos (by omega)]; done) | (rw [if_neg (by omega), if_pos (by omega)]; done) | (rw [if_neg (by omega), if_neg (by omega), if_pos (by omega)]; done) | (rw [if_neg (by omega), if_neg (by omega), if_neg (by omega), show n = j by omega]; done)) (by unfold sLots; first | (rw [if_pos (by omega)]; exact hRel) | (rw [if_neg (by omega), if_pos (by omega)]; exact hRel) | (rw [if_neg (by omega), if_neg (by omega), if_pos (by omega)]; exact hRel) | (rw [if_neg (by omega), if_neg (by omega), if_neg (by omega), show n = j by omega]; exact hw)) rfl)
      · skip
        refine g_bipush F dX8_lots_33 (-4) (by decide) ?_
        exact g_ireturn F hR dX8_lots_35 (pH_z (by unfold sLots; first | (rw [if_pos (by omega)]; done) | (rw [if_neg (by omega), if_pos (by omega)]; done) | (rw [if_neg (by omega), if_neg (by omega), if_pos (by omega)]; done) | (rw [if_neg (by omega), if_neg (by omega), if_neg (by omega), show n = j by omega]; done)) (by unfold sLots; first | (rw [if_pos (by omega)]; exact hRel) | (rw [if_neg (by omega), if_pos (by omega)]; exact hRel) | (rw [if_neg (by omega), if_neg (by omega), if_pos (by omega)]; exact hRel) | (rw [if_neg (by omega), if_neg (by omega), if_neg (by omega), show n = j by omega]; exact hw)) rfl)
    · skip
      refine g_iconst F dX8_lots_24 (-1) (by decide) ?_
      exact g_ireturn F hR dX8_lots_25 (pH_z (by unfold sLots; first | (rw [if_pos (by omega)]; done) | (rw [if_neg (by omega), if_pos (by omega)]; done) | (rw [if_neg (by omega), if_neg (by omega), if_pos (by omega)]; done) | (rw [if_neg (by omega), if_neg (by omega), if_neg (by omega), show n = j by omega]; done)) (by unfold sLots; first | (rw [if_pos (by omega)]; exact hRel) | (rw [if_neg (by omega), if_pos (by omega)]; exact hRel) | (rw [if_neg (by omega), if_neg (by omega), if_pos (by omega)]; exact hRel) | (rw [if_neg (by omega), if_neg (by omega), if_neg (by omega), show n = j by omega]; exact hw)) rfl)
