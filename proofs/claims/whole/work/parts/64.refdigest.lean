set_option maxHeartbeats 2000000 in
set_option maxRecDepth 20000 in
theorem c_X8_digest (l : Launch) (D : gD) (ad : gA) (x : gX) (y : gY) (z : gX) (hRel : Rel z y) : gC l D ad 6 yX8_digest cX8_digest 5 (some .long) [.ref (ad 8 (0))] x y (pL (sDigest z) (x) (y)) := by
  refine g_met RX8 rfl (by decide +kernel) [(0, .ref (ad 8 (0)))] rfl (Nat.le_of_ble_eq_true rfl) (fun Θ F hR => ?_)
  have hN := hRel.1.1
  have hRW := hRel.1.2.1
  have hDD := hRel.1.2.2.1
  have hST := hRel.2.1
  have hB := Rel_SB hRel
  have h10 := hN.2.1
  have h15 := hN.2.2.1
  refine g_ldc2 F ck_X8_321 dX8_digest_0 (17) (by decide) ?_
  refine g_lstore_n F [(1, .long (Lg (17))), (0, .ref (ad 8 (0)))] dX8_digest_3 rfl (by decide) rfl ?_
  refine g_iconst F dX8_digest_4 (0) (by decide) ?_
  refine g_istore_n F [(3, .int (J (0))), (1, .long (Lg (17))), (0, .ref (ad 8 (0)))] dX8_digest_5 rfl (by decide) rfl ?_
  have L6 : ∀ (N : Nat) (a : Int) (j : Int), 0 ≤ j ∧ j ≤ 11 → a = dgZ (fun k => ctU z k) 17 j → (11 - j).toNat < N → gW Θ l D ad 5 6 [(0, .ref (ad 8 (0))), (1, .long (Lg (a))), (3, .int (J (j)))] [] x y := by
    intro N
    induction N with
    | zero => intro a j hj ha hFu; omega
    | succ N ih6 =>
      intro a j hj ha hFu
      have hct := ctU_r hN hDD.1.1 j
      refine g_iload_n F dX8_digest_6 rfl 2 rfl ?_
      refine g_bipush F dX8_digest_7 (11) (by decide) ?_
      refine g_icmp_ge 31 F dX8_digest_9 (by omega) (by decide) rfl (fun c_1 => ?_) (fun c_1 => ?_)
      · skip
        refine g_iconst F dX8_digest_31 (0) (by decide) ?_
        refine g_istore_n F [(3, .int (J (0))), (0, .ref (ad 8 (0))), (1, .long (Lg (a)))] dX8_digest_32 rfl (by decide) rfl ?_
        have L33 : ∀ (N : Nat) (a : Int) (j : Int), 0 ≤ j ∧ j ≤ 9 * z 10 0 0 → a = dgZ (fun q => dU z (q / 9) (q % 9)) (dg1 z) j → (9 * z 10 0 0 - j).toNat < N → gW Θ l D ad 5 33 [(0, .ref (ad 8 (0))), (1, .long (Lg (a))), (3, .int (J (j)))] [] x y := by
          intro N
          induction N with
          | zero => intro a j hj ha hFu; omega
          | succ N ih33 =>
            intro a j hj ha hFu
            refine g_iload_n F dX8_digest_33 rfl 2 rfl ?_
            refine g_bipush F dX8_digest_34 (9) (by decide) ?_
            refine g_aload_n F dX8_digest_36 rfl 0 rfl ?_
            refine gg_Model_men F fk_X8_157 dX8_digest_37 ?_
            refine g_topi (b := z 10 0 0) (hST.2.2.2.2.1) ?_
            refine g_imul F dX8_digest_40 ?_
            refine g_icmp_ge 70 F dX8_digest_41 (by omega) (by omega) rfl (fun c_2 => ?_) (fun c_2 => ?_)
            · skip
              refine g_iconst F dX8_digest_70 (1) (by decide) ?_
              refine g_istore_n F [(3, .int (J (1))), (0, .ref (ad 8 (0))), (1, .long (Lg (a)))] dX8_digest_71 rfl (by decide) rfl ?_
              have L72 : ∀ (N : Nat) (a : Int) (j : Int), 1 ≤ j ∧ j ≤ 4 → a = dgZ (fun k => z 16 (1 + k) 0) (dg2 z) (j - 1) → (4 - j).toNat < N → gW Θ l D ad 5 72 [(0, .ref (ad 8 (0))), (1, .long (Lg (a))), (3, .int (J (j)))] [] x y := by
                intro N
                induction N with
                | zero => intro a j hj ha hFu; omega
                | succ N ih72 =>
                  intro a j hj ha hFu
                  refine g_iload_n F dX8_digest_72 rfl 2 rfl ?_
                  refine g_iconst F dX8_digest_73 (4) (by decide) ?_
                  refine g_icmp_ge 103 F dX8_digest_74 (by omega) (by decide) rfl (fun c_3 => ?_) (fun c_3 => ?_)
                  · skip
                    refine g_iconst F dX8_digest_103 (0) (by decide) ?_
                    refine g_istore_n F [(3, .int (J (0))), (0, .ref (ad 8 (0))), (1, .long (Lg (a)))] dX8_digest_104 rfl (by decide) rfl ?_
                    have L105 : ∀ (N : Nat) (a : Int) (j : Int), 0 ≤ j ∧ j ≤ 6 → a = drZ z (dg3 z) (j) → (6 - j).toNat < N → gW Θ l D ad 5 105 [(0, .ref (ad 8 (0))), (1, .long (Lg (a))), (3, .int (J (j)))] [] x y := by
                      intro N
                      induction N with
                      | zero => intro a j hj ha hFu; omega
                      | succ N ih105 =>
                        intro a j hj ha hFu
                        refine g_iload_n F dX8_digest_105 rfl 2 rfl ?_
                        refine g_bipush F dX8_digest_106 (6) (by decide) ?_
                        refine g_icmp_ge 171 F dX8_digest_108 (by omega) (by decide) rfl (fun c_4 => ?_) (fun c_4 => ?_)
                        · skip
                          refine g_iconst F dX8_digest_171 (0) (by decide) ?_
                          refine g_istore_n F [(3, .int (J (0))), (0, .ref (ad 8 (0))), (1, .long (Lg (a)))] dX8_digest_172 rfl (by decide) rfl ?_
                          have L173 : ∀ (N : Nat) (a : Int) (j : Int), 0 ≤ j ∧ j ≤ 4 → a = drZ z (dg3 z) (6 + j) → (4 - j).toNat < N → gW Θ l D ad 5 173 [(0, .ref (ad 8 (0))), (1, .long (Lg (a))), (3, .int (J (j)))] [] x y := by
                            intro N
                            induction N with
                            | zero => intro a j hj ha hFu; omega
                            | succ N ih173 =>
                              intro a j hj ha hFu
                              refine g_iload_n F dX8_digest_173 rfl 2 rfl ?_
                              refine g_iconst F dX8_digest_174 (4) (by decide) ?_
                              refine g_icmp_ge 238 F dX8_digest_175 (by omega) (by decide) rfl (fun c_5 => ?_) (fun c_5 => ?_)
                              · skip
                                refine g_lload_n F dX8_digest_238 rfl 1 rfl ?_
                                exact g_lreturn F hR dX8_digest_239 (pL_i (by exact ha.trans (by rw [show j = 4 by omega]; rfl)) rfl rfl)
                              · skip
                                have hwj := (hRW (6 + j) (by omega) (by omega)).2.1
                                have hz0 : -1 ≤ z 17 (6 + j) 0 ∧ z 17 (6 + j) 0 ≤ 60 := by have q := (hRW (6 + j) (by omega) (by omega)).1; split at q <;> omega
                                refine g_ldc2 F ck_X8_323 dX8_digest_178 (31) (by decide) ?_
                                refine g_lload_n F dX8_digest_181 rfl 1 rfl ?_
                                refine g_lmul F dX8_digest_182 ?_
                                refine g_aload_n F dX8_digest_183 rfl 0 rfl ?_
                                refine gg_Model_lengths F fk_X8_31 dX8_digest_184 ?_
                                refine g_iload_n F dX8_digest_187 rfl 2 rfl ?_
                                refine ga_47 F (by omega) dX8_digest_188 ?_
                                refine g_topi (b := z 17 (6 + (j)) 0) ((hRel.2.2.2.1.2 _ (by omega) (by omega)).1) ?_
                                refine g_i2l F dX8_digest_189 (by omega) ?_
                                refine g_ladd F dX8_digest_190 ?_
                                refine g_lstore_n F [(1, .long (Lg (((31) * (a)) + (z 17 (6 + (j)) 0)))), (0, .ref (ad 8 (0))), (3, .int (J (j)))] dX8_digest_191 rfl (by decide) rfl ?_
                                refine g_iconst F dX8_digest_192 (0) (by decide) ?_
                                refine g_istore F [(4, .int (J (0))), (1, .long (Lg (((31) * (a)) + (z 17 (6 + (j)) 0)))), (0, .ref (ad 8 (0))), (3, .int (J (j)))] dX8_digest_193 (by decide) rfl ?_
                                have L195 : ∀ (N : Nat) (b : Int) (i : Int), 0 ≤ i ∧ (i ≤ z 17 (6 + j) 0 ∨ i = 0) → b = dgZ (fun q => z 20 (6 + j) q) (31 * a + z 17 (6 + j) 0) i → (z 17 (6 + j) 0 - i + 2).toNat < N → gW Θ l D ad 5 195 [(0, .ref (ad 8 (0))), (1, .long (Lg (b))), (3, .int (J (j))), (4, .int (J (i)))] [] x y := by
                                  intro N
                                  induction N with
                                  | zero => intro b i hi hb hFu; omega
                                  | succ N ih195 =>
                                    intro b i hi hb hFu
                                    refine g_iload F dX8_digest_195 3 rfl ?_
                                    refine g_aload_n F dX8_digest_197 rfl 0 rfl ?_
                                    refine gg_Model_lengths F fk_X8_31 dX8_digest_198 ?_
                                    refine g_iload_n F dX8_digest_201 rfl 2 rfl ?_
                                    refine ga_47 F (by omega) dX8_digest_202 ?_
                                    refine g_topi (b := z 17 (6 + (j)) 0) ((hRel.2.2.2.1.2 _ (by omega) (by omega)).1) ?_
                                    refine g_icmp_ge 232 F dX8_digest_203 (by omega) (by omega) rfl (fun c_6 => ?_) (fun c_6 => ?_)
                                    · skip
                                      refine g_iinc F [(3, .int (J (j + 1))), (0, .ref (ad 8 (0))), (1, .long (Lg (b))), (4, .int (J (i)))] 2 rfl dX8_digest_232 (by decide) rfl ?_
                                      refine g_goto F 173 dX8_digest_235 rfl ?_
                                      refine g_sub [1, 2, 0] (lv' := [(0, .ref (ad 8 (0))), (1, .long (Lg (b))), (3, .int (J (j + 1)))]) rfl ?_
                                      exact ih173 (b) (j + 1) (by omega) (by rw [← Int.add_assoc, drZ_s _ _ (by omega), ← ha, hb]; (rcases (show i = z 17 (6 + j) 0 ∨ (i = 0 ∧ z 17 (6 + j) 0 = -1) by omega) with e | e <;> first | (rw [e]; done) | (rw [e.1, e.2]; rfl))) (by omega)
                                    · skip
                                      have hwji := hwj i
                                      refine g_ldc2 F ck_X8_323 dX8_digest_206 (31) (by decide) ?_
                                      refine g_lload_n F dX8_digest_209 rfl 1 rfl ?_
                                      refine g_lmul F dX8_digest_210 ?_
                                      refine g_aload_n F dX8_digest_211 rfl 0 rfl ?_
                                      refine gg_Model_bytes F fk_X8_34 dX8_digest_212 ?_
                                      refine g_bipush F dX8_digest_215 (60) (by decide) ?_
                                      refine g_iload_n F dX8_digest_217 rfl 2 rfl ?_
                                      refine g_imul F dX8_digest_218 ?_
                                      refine g_iload F dX8_digest_219 3 rfl ?_
                                      refine g_iadd F dX8_digest_221 ?_
                                      refine ga_48 F (by omega) dX8_digest_222 ?_
                                      refine g_topi (b := z 20 (6 + (j)) (i)) ((hRel.2.2.2.1.2 _ (by omega) (by omega)).2 _ (by omega) (by omega)) ?_
                                      refine g_i2l F dX8_digest_223 (by omega) ?_
                                      refine g_ladd F dX8_digest_224 ?_
                                      refine g_lstore_n F [(1, .long (Lg (((31) * (b)) + (z 20 (6 + (j)) (i))))), (0, .ref (ad 8 (0))), (3, .int (J (j))), (4, .int (J (i)))] dX8_digest_225 rfl (by decide) rfl ?_
                                      refine g_iinc F [(4, .int (J (i + 1))), (1, .long (Lg (((31) * (b)) + (z 20 (6 + (j)) (i))))), (0, .ref (ad 8 (0))), (3, .int (J (j)))] 3 rfl dX8_digest_226 (by decide) rfl ?_
                                      refine g_goto F 195 dX8_digest_229 rfl ?_
                                      refine g_sub [2, 1, 3, 0] (lv' := [(0, .ref (ad 8 (0))), (1, .long (Lg (((31) * (b)) + (z 20 (6 + (j)) (i))))), (3, .int (J (j))), (4, .int (J (i + 1)))]) rfl ?_
                                      exact ih195 (((31) * (b)) + (z 20 (6 + (j)) (i))) (i + 1) (by omega) (by rw [dgZ_s _ _ hi.1, ← hb]) (by omega)
                                refine g_sub [2, 1, 3, 0] (lv' := [(0, .ref (ad 8 (0))), (1, .long (Lg (((31) * (a)) + (z 17 (6 + (j)) 0)))), (3, .int (J (j))), (4, .int (J (0)))]) rfl ?_
                                exact L195 _ (((31) * (a)) + (z 17 (6 + (j)) 0)) (0) (by omega) (rfl) (Nat.lt_succ_self _)
                          refine g_sub [1, 2, 0] (lv' := [(0, .ref (ad 8 (0))), (1, .long (Lg (a))), (3, .int (J (0)))]) rfl ?_
                          exact L173 _ (a) (0) (by omega) (ha.trans (by rw [show j = 6 by omega]; rfl)) (Nat.lt_succ_self _)
                        · skip
                          have hwj := (hRW j (by omega) (by omega)).2.1
                          have hz0 : -1 ≤ z 17 j 0 ∧ z 17 j 0 ≤ 40 := by have q := (hRW j (by omega) (by omega)).1; rw [if_pos (by omega)] at q; exact q
                          refine g_ldc2 F ck_X8_323 dX8_digest_111 (31) (by decide) ?_
                          refine g_lload_n F dX8_digest_114 rfl 1 rfl ?_
                          refine g_lmul F dX8_digest_115 ?_
                          refine g_aload_n F dX8_digest_116 rfl 0 rfl ?_
                          refine gg_Model_sizes F fk_X8_25 dX8_digest_117 ?_
                          refine g_iload_n F dX8_digest_120 rfl 2 rfl ?_
                          refine ga_45 F (by omega) dX8_digest_121 ?_
                          refine g_topi (b := z 17 (j) 0) ((hRel.2.2.2.1.1 _ (by omega) (by omega)).1) ?_
                          refine g_i2l F dX8_digest_122 (by omega) ?_
                          refine g_ladd F dX8_digest_123 ?_
                          refine g_lstore_n F [(1, .long (Lg (((31) * (a)) + (z 17 (j) 0)))), (0, .ref (ad 8 (0))), (3, .int (J (j)))] dX8_digest_124 rfl (by decide) rfl ?_
                          refine g_iconst F dX8_digest_125 (0) (by decide) ?_
                          refine g_istore F [(4, .int (J (0))), (1, .long (Lg (((31) * (a)) + (z 17 (j) 0)))), (0, .ref (ad 8 (0))), (3, .int (J (j)))] dX8_digest_126 (by decide) rfl ?_
                          have L128 : ∀ (N : Nat) (b : Int) (i : Int), 0 ≤ i ∧ (i ≤ z 17 (j) 0 ∨ i = 0) → b = dgZ (fun q => z 20 (j) q) (31 * a + z 17 (j) 0) i → (z 17 (j) 0 - i + 2).toNat < N → gW Θ l D ad 5 128 [(0, .ref (ad 8 (0))), (1, .long (Lg (b))), (3, .int (J (j))), (4, .int (J (i)))] [] x y := by
                            intro N
                            induction N with
                            | zero => intro b i hi hb hFu; omega
                            | succ N ih128 =>
                              intro b i hi hb hFu
                              refine g_iload F dX8_digest_128 3 rfl ?_
                              refine g_aload_n F dX8_digest_130 rfl 0 rfl ?_
                              refine gg_Model_sizes F fk_X8_25 dX8_digest_131 ?_
                              refine g_iload_n F dX8_digest_134 rfl 2 rfl ?_
                              refine ga_45 F (by omega) dX8_digest_135 ?_
                              refine g_topi (b := z 17 (j) 0) ((hRel.2.2.2.1.1 _ (by omega) (by omega)).1) ?_
                              refine g_icmp_ge 165 F dX8_digest_136 (by omega) (by omega) rfl (fun c_7 => ?_) (fun c_7 => ?_)
                              · skip
                                refine g_iinc F [(3, .int (J (j + 1))), (0, .ref (ad 8 (0))), (1, .long (Lg (b))), (4, .int (J (i)))] 2 rfl dX8_digest_165 (by decide) rfl ?_
                                refine g_goto F 105 dX8_digest_168 rfl ?_
                                refine g_sub [1, 2, 0] (lv' := [(0, .ref (ad 8 (0))), (1, .long (Lg (b))), (3, .int (J (j + 1)))]) rfl ?_
                                exact ih105 (b) (j + 1) (by omega) (by rw [show j + 1 = (j) + 1 by omega, drZ_s _ _ (by omega), ← ha, hb]; (rcases (show i = z 17 (j) 0 ∨ (i = 0 ∧ z 17 (j) 0 = -1) by omega) with e | e <;> first | (rw [e]; done) | (rw [e.1, e.2]; rfl))) (by omega)
                              · skip
                                have hwji := hwj i
                                refine g_ldc2 F ck_X8_323 dX8_digest_139 (31) (by decide) ?_
                                refine g_lload_n F dX8_digest_142 rfl 1 rfl ?_
                                refine g_lmul F dX8_digest_143 ?_
                                refine g_aload_n F dX8_digest_144 rfl 0 rfl ?_
                                refine gg_Model_items F fk_X8_28 dX8_digest_145 ?_
                                refine g_bipush F dX8_digest_148 (40) (by decide) ?_
                                refine g_iload_n F dX8_digest_150 rfl 2 rfl ?_
                                refine g_imul F dX8_digest_151 ?_
                                refine g_iload F dX8_digest_152 3 rfl ?_
                                refine g_iadd F dX8_digest_154 ?_
                                refine ga_46 F (by omega) dX8_digest_155 ?_
                                refine g_topi (b := z 20 (j) (i)) ((hRel.2.2.2.1.1 _ (by omega) (by omega)).2 _ (by omega) (by omega)) ?_
                                refine g_i2l F dX8_digest_156 (by omega) ?_
                                refine g_ladd F dX8_digest_157 ?_
                                refine g_lstore_n F [(1, .long (Lg (((31) * (b)) + (z 20 (j) (i))))), (0, .ref (ad 8 (0))), (3, .int (J (j))), (4, .int (J (i)))] dX8_digest_158 rfl (by decide) rfl ?_
                                refine g_iinc F [(4, .int (J (i + 1))), (1, .long (Lg (((31) * (b)) + (z 20 (j) (i))))), (0, .ref (ad 8 (0))), (3, .int (J (j)))] 3 rfl dX8_digest_159 (by decide) rfl ?_
                                refine g_goto F 128 dX8_digest_162 rfl ?_
                                refine g_sub [2, 1, 3, 0] (lv' := [(0, .ref (ad 8 (0))), (1, .long (Lg (((31) * (b)) + (z 20 (j) (i))))), (3, .int (J (j))), (4, .int (J (i + 1)))]) rfl ?_
                                exact ih128 (((31) * (b)) + (z 20 (j) (i))) (i + 1) (by omega) (by rw [dgZ_s _ _ hi.1, ← hb]) (by omega)
                          refine g_sub [2, 1, 3, 0] (lv' := [(0, .ref (ad 8 (0))), (1, .long (Lg (((31) * (a)) + (z 17 (j) 0)))), (3, .int (J (j))), (4, .int (J (0)))]) rfl ?_
                          exact L128 _ (((31) * (a)) + (z 17 (j) 0)) (0) (by omega) (rfl) (Nat.lt_succ_self _)
                    refine g_sub [1, 2, 0] (lv' := [(0, .ref (ad 8 (0))), (1, .long (Lg (a))), (3, .int (J (0)))]) rfl ?_
                    exact L105 _ (a) (0) (by omega) (ha.trans (by rw [show j - 1 = 3 by omega]; rfl)) (Nat.lt_succ_self _)
                  · skip
                    have hk := hDD.1.2 j (by omega) (by omega)
                    refine g_ldc2 F ck_X8_323 dX8_digest_77 (31) (by decide) ?_
                    refine g_lload_n F dX8_digest_80 rfl 1 rfl ?_
                    refine g_lmul F dX8_digest_81 ?_
                    refine g_aload_n F dX8_digest_82 rfl 0 rfl ?_
                    refine gg_Model_row F fk_X8_7 dX8_digest_83 ?_
                    refine g_sipush F dX8_digest_86 (657) (by decide) ?_
                    refine g_iload_n F dX8_digest_89 rfl 2 rfl ?_
                    refine g_imul F dX8_digest_90 ?_
                    refine g_iconst F dX8_digest_91 (0) (by decide) ?_
                    refine g_iadd F dX8_digest_92 ?_
                    refine ga_40 F (by omega) dX8_digest_93 ?_
                    refine g_topi (b := z 16 j 0) (by rw [Int.add_zero]; exact (hRel.2.2.1 j (by omega) (by omega)).1) ?_
                    refine g_i2l F dX8_digest_94 (by omega) ?_
                    refine g_ladd F dX8_digest_95 ?_
                    refine g_lstore_n F [(1, .long (Lg (((31) * (a)) + (z 16 j 0)))), (0, .ref (ad 8 (0))), (3, .int (J (j)))] dX8_digest_96 rfl (by decide) rfl ?_
                    refine g_iinc F [(3, .int (J (j + 1))), (1, .long (Lg (((31) * (a)) + (z 16 j 0)))), (0, .ref (ad 8 (0)))] 2 rfl dX8_digest_97 (by decide) rfl ?_
                    refine g_goto F 72 dX8_digest_100 rfl ?_
                    refine g_sub [2, 1, 0] (lv' := [(0, .ref (ad 8 (0))), (1, .long (Lg (((31) * (a)) + (z 16 j 0)))), (3, .int (J (j + 1)))]) rfl ?_
                    exact ih72 (((31) * (a)) + (z 16 j 0)) (j + 1) (by omega) (by rw [show j + 1 - 1 = j - 1 + 1 by omega, dgZ_s _ _ (by omega), ← ha]; show _ = 31 * a + z 16 (1 + (j - 1)) 0; rw [show 1 + (j - 1) = j by omega]) (by omega)
              refine g_sub [1, 2, 0] (lv' := [(0, .ref (ad 8 (0))), (1, .long (Lg (a))), (3, .int (J (1)))]) rfl ?_
              exact L72 _ (a) (1) (by omega) (ha.trans (by rw [show j = 9 * z 10 0 0 by omega]; rfl)) (Nat.lt_succ_self _)
            · skip
              have hm := hN.2.2.2 (j / 9) (by omega) (by omega)
              have hdu := dU_r (w := j % 9) hN hm
              refine g_ldc2 F ck_X8_323 dX8_digest_44 (31) (by decide) ?_
              refine g_lload_n F dX8_digest_47 rfl 1 rfl ?_
              refine g_lmul F dX8_digest_48 ?_
              refine g_aload_n F dX8_digest_49 rfl 0 rfl ?_
              refine g_iload_n F dX8_digest_50 rfl 2 rfl ?_
              refine g_bipush F dX8_digest_51 (9) (by decide) ?_
              refine g_idivp F dX8_digest_53 (by omega) (by decide) (by omega) (by decide) ?_
              refine g_iload_n F dX8_digest_54 rfl 2 rfl ?_
              refine g_bipush F dX8_digest_55 (9) (by decide) ?_
              refine g_iremp F dX8_digest_57 (by omega) (by decide) (by omega) (by decide) ?_
              refine g_callV 2 F (As := [.int (J ((j) / (9))), .int (J ((j) % (9)))]) (st := [.long (Lg ((31) * (a)))]) (c_X8_toldOf l D ad x y z ((j) / (9)) ((j) % (9)) (hST) (hN) (hB) (by omega) (by omega)) (gR_8) rfl mk_X8_196 ki_X8_toldOf kc_X8_toldOf (by decide +kernel) rfl (by decide) dX8_digest_58 rfl (Nat.le_of_ble_eq_true rfl) (pI_k ?_)
              refine g_i2l F dX8_digest_61 (by omega) ?_
              refine g_ladd F dX8_digest_62 ?_
              refine g_lstore_n F [(1, .long (Lg (((31) * (a)) + (dU z ((j) / (9)) ((j) % (9)))))), (0, .ref (ad 8 (0))), (3, .int (J (j)))] dX8_digest_63 rfl (by decide) rfl ?_
              refine g_iinc F [(3, .int (J (j + 1))), (1, .long (Lg (((31) * (a)) + (dU z ((j) / (9)) ((j) % (9)))))), (0, .ref (ad 8 (0)))] 2 rfl dX8_digest_64 (by decide) rfl ?_
              refine g_goto F 33 dX8_digest_67 rfl ?_
              refine g_sub [2, 1, 0] (lv' := [(0, .ref (ad 8 (0))), (1, .long (Lg (((31) * (a)) + (dU z ((j) / (9)) ((j) % (9)))))), (3, .int (J (j + 1)))]) rfl ?_
              exact ih33 (((31) * (a)) + (dU z ((j) / (9)) ((j) % (9)))) (j + 1) (by omega) (by rw [dgZ_s _ _ hj.1, ← ha]) (by omega)
        refine g_sub [1, 2, 0] (lv' := [(0, .ref (ad 8 (0))), (1, .long (Lg (a))), (3, .int (J (0)))]) rfl ?_
        exact L33 _ (a) (0) (by omega) (ha.trans (by rw [show j = 11 by omega]; rfl)) (Nat.lt_succ_self _)
      · skip
        refine g_ldc2 F ck_X8_323 dX8_digest_12 (31) (by decide) ?_
        refine g_lload_n F dX8_digest_15 rfl 1 rfl ?_
        refine g_lmul F dX8_digest_16 ?_
        refine g_aload_n F dX8_digest_17 rfl 0 rfl ?_
        refine g_iload_n F dX8_digest_18 rfl 2 rfl ?_
        refine g_callV 1 F (As := [.int (J (j))]) (st := [.long (Lg ((31) * (a)))]) (c_X8_countOf l D ad x y z (j) (hRel) (by omega)) (gR_8) rfl mk_X8_318 ki_X8_countOf kc_X8_countOf (by decide +kernel) rfl (by decide) dX8_digest_19 rfl (Nat.le_of_ble_eq_true rfl) (pI_k ?_)
        refine g_i2l F dX8_digest_22 (by omega) ?_
        refine g_ladd F dX8_digest_23 ?_
        refine g_lstore_n F [(1, .long (Lg (((31) * (a)) + (ctU z (j))))), (0, .ref (ad 8 (0))), (3, .int (J (j)))] dX8_digest_24 rfl (by decide) rfl ?_
        refine g_iinc F [(3, .int (J (j + 1))), (1, .long (Lg (((31) * (a)) + (ctU z (j))))), (0, .ref (ad 8 (0)))] 2 rfl dX8_digest_25 (by decide) rfl ?_
        refine g_goto F 6 dX8_digest_28 rfl ?_
        refine g_sub [2, 1, 0] (lv' := [(0, .ref (ad 8 (0))), (1, .long (Lg (((31) * (a)) + (ctU z (j))))), (3, .int (J (j + 1)))]) rfl ?_
        exact ih6 (((31) * (a)) + (ctU z (j))) (j + 1) (by omega) (by rw [dgZ_s _ _ hj.1, ← ha]) (by omega)
  refine g_sub [2, 1, 0] (lv' := [(0, .ref (ad 8 (0))), (1, .long (Lg (17))), (3, .int (J (0)))]) rfl ?_
  exact L6 _ (17) (0) (by omega) (rfl) (Nat.lt_succ_self _)
