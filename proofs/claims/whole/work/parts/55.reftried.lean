theorem tdA {z : gX} {r : Int} (q : ¬ (0 ≤ r ∧ r < 6)) : sTried z r = (-1, z) := by
  have e : rRf z r = -1 := by unfold rRf; rw [if_pos q]
  unfold sTried; rw [e, if_pos (by decide)]
theorem tdB {z : gX} {r : Int} (q : 0 ≤ r ∧ r < 6) (h : z 10 0 0 = 0) : sTried z r = (-4, z) := by
  have e : rRf z r = -4 := by unfold rRf; rw [if_neg (by omega), if_pos h]
  unfold sTried; rw [e, if_pos (by decide)]
theorem rRf_ok {z : gX} {r : Int} (q : 0 ≤ r ∧ r < 6) (h : z 10 0 0 ≠ 0) : rRf z r = 0 := by unfold rRf; rw [if_neg (by omega), if_neg h]
theorem tdN {z : gX} {r f : Int} (q : 0 ≤ r ∧ r < 6) (h : z 10 0 0 ≠ 0) (hf : f ≠ 0) (e : ofU z r = f) : sTried z r = (-3, fnd z f) := by
  unfold sTried
  rw [rRf_ok q h, if_neg (by decide), e, if_pos hf]
theorem tdC {z : gX} {r : Int} (q : 0 ≤ r ∧ r < 6) (h : z 10 0 0 ≠ 0) (hs : z 17 r 0 = -1) : sTried z r = (-3, fnd z 1) := tdN q h (by decide) (by unfold ofU; rw [if_pos hs])
theorem tdD {z : gX} {r : Int} (q : 0 ≤ r ∧ r < 6) (h : z 10 0 0 ≠ 0) (hs : 6 < z 17 r 0) : sTried z r = (-3, fnd z 5) := tdN q h (by decide) (by unfold ofU; rw [if_neg (by omega), if_pos hs])
theorem tdE {z : gX} {r j : Int} (q : 0 ≤ r ∧ r < 6) (h : z 10 0 0 ≠ 0) (hs : z 17 r 0 ≤ 6) (h0 : 0 ≤ j) (h1 : j < z 17 r 0) (hb : ¬ (mnN z (z 20 r j) ∧ z 6 (z 20 r j) 0 = -9 ∧ ocU z r j (z 20 r j) = 0)) : sTried z r = (-3, fnd z 3) := tdN q h (by decide) (by
  unfold ofU
  rw [if_neg (by omega), if_neg (by omega), if_neg (mm_no (P := fun j => mnN z (z 20 r j) ∧ z 6 (z 20 r j) 0 = -9 ∧ ocU z r j (z 20 r j) = 0) h0 h1 hb)])
theorem tdF {z : gX} {r : Int} (q : 0 ≤ r ∧ r < 6) (h : z 10 0 0 ≠ 0) (hs : 0 ≤ z 17 r 0 ∧ z 17 r 0 ≤ 6) (hl : ofP z r (z 17 r 0)) : sTried z r = ((evZ z (z 20 r) (z 17 r 0)).1, xU z 19 0 0 (evZ z (z 20 r) (z 17 r 0)).2.2) := by
  unfold sTried
  rw [rRf_ok q h, if_neg (by decide), if_neg (by unfold ofU; rw [if_neg (by omega), if_neg (by omega), if_pos hl]; decide)]
theorem oc_no {z : gX} {r k i : Int} (hk : 0 ≤ k) (h : ocU z r k i = 0) (j : Int) (j0 : 0 ≤ j) (j1 : j < k) : z 20 r j ≠ i := by
  refine (mmZ_iff (P := fun q => z 20 r q ≠ i) hk).mp ?_ j j0 j1
  refine Eq.trans (sumZ_cong (fun q _ _ => ?_)) h
  by_cases c : z 20 r q = i
  · rw [if_pos c, if_neg (fun w => w c)]
  · rw [if_neg c, if_pos c]
theorem ofP_LN {z : gX} {r n : Int} (hn : 0 ≤ n) (h : ofP z r n) : LN z (z 20 r) n := by
  refine ⟨fun j j0 j1 => ?_, fun j k j0 jk k1 => ?_⟩
  · have a := ofP_at hn h j0 j1
    exact ⟨a.1, a.2.1⟩
  · have a := ofP_at hn h (j := k) (by omega) k1
    exact oc_no (by omega) a.2.2 j j0 jk
/-- the line, laid from a row -/
def tlY (y : gY) (f : Int → Int) (q : Int) : gY := fun k j => if k = 52 ∧ 0 ≤ j ∧ j < q then f j else y k j
theorem tlY_0 (y : gY) (f : Int → Int) : tlY y f 0 = y := by funext k j; unfold tlY; rw [if_neg (by omega)]
theorem tlY_s (y : gY) (f : Int → Int) {q : Int} (hq : 0 ≤ q) : yU (tlY y f q) 52 q (f q) = tlY y f (q + 1) := by
  funext k j
  unfold yU tlY
  by_cases h1 : k = 52 ∧ j = q
  · rw [if_pos h1, if_pos ⟨h1.1, by omega, by omega⟩, h1.2]
  · rw [if_neg h1]
    by_cases h2 : k = 52 ∧ 0 ≤ j ∧ j < q
    · rw [if_pos h2, if_pos ⟨h2.1, h2.2.1, by omega⟩]
    · rw [if_neg h2, if_neg (by omega)]
theorem tlY_k (y : gY) (f : Int → Int) (q : Int) {k : Int} (h : k ≠ 52) : tlY y f q k = y k := by funext j; unfold tlY; rw [if_neg (fun w => h w.1)]
theorem tlY_i (y : gY) (f : Int → Int) {q j : Int} (h0 : 0 ≤ j) (h1 : j < q) : tlY y f q 52 j = f j := by unfold tlY; rw [if_pos ⟨rfl, h0, h1⟩]
theorem tl_ys (y : gY) (f : Int → Int) (q : Int) : ys y (tlY y f q) := fun k j h => by rw [tlY_k y f q (by omega)]
theorem tl_y2 (y : gY) (f : Int → Int) (q v : Int) : ys y (yU (tlY y f q) 14 0 v) := fun k j h => by rw [yU_k (by omega), tlY_k y f q (by omega)]
theorem WLP_ys {z Z : gX} {y w : gY} (h : WLP z y w Z) : ys y w := fun k j c => by
  by_cases q : k = 40
  · rw [q]; exact h.2.1 j (by omega)
  · rw [h.1 k q]
theorem bits_tb {P : Int → Prop} [DecidablePred P] {i n : Int} (h0 : 0 ≤ i) (h1 : i < n) : bitsZ P n / p2 i % 2 = 1 ↔ P i := by
  have e := bit_of (P := P) h0 h1
  rw [e]; split <;> rename_i c
  · exact ⟨fun _ => c, fun _ => rfl⟩
  · exact ⟨fun w => absurd w (by decide), fun w => absurd w c⟩
set_option maxRecDepth 20000 in
theorem c_X8_asked (l : Launch) (D : gD) (ad : gA) (x : gX) (y : gY) (z : gX) (hRel : Rel z y) : gC l D ad 0 yX8_asked cX8_asked 1 (some .int) [.ref (ad 8 (0))] x y (pI (z 19 0 0) (x) (y)) := by
  refine g_met RX8 rfl (by decide +kernel) [(0, .ref (ad 8 (0)))] rfl (Nat.le_of_ble_eq_true rfl) (fun Θ F hR => ?_)
  have hN := hRel.1.1
  have hRW := hRel.1.2.1
  have hDD := hRel.1.2.2.1
  have hST := hRel.2.1
  have hB := Rel_SB hRel
  have h10 := hN.2.1
  have h15 := hN.2.2.1
  refine g_aload_n F dX8_asked_0 rfl 0 rfl ?_
  refine gg_Model_asked F fk_X8_69 dX8_asked_1 ?_
  refine g_topi (b := z 19 0 0) (hRel.2.2.2.2.1) ?_
  exact g_ireturn F hR dX8_asked_4 (pI_i (by rfl) rfl rfl)

set_option maxRecDepth 20000 in
theorem c_X8_upper (l : Launch) (D : gD) (ad : gA) (x : gX) (y : gY) (z : gX) (hRel : Rel z y) : gC l D ad 0 yX8_upper cX8_upper 1 (some .long) [.ref (ad 8 (0))] x y (pL (z 8 0 0) (x) (y)) := by
  refine g_met RX8 rfl (by decide +kernel) [(0, .ref (ad 8 (0)))] rfl (Nat.le_of_ble_eq_true rfl) (fun Θ F hR => ?_)
  have hN := hRel.1.1
  have hRW := hRel.1.2.1
  have hDD := hRel.1.2.2.1
  have hST := hRel.2.1
  have hB := Rel_SB hRel
  have h10 := hN.2.1
  have h15 := hN.2.2.1
  refine g_aload_n F dX8_upper_0 rfl 0 rfl ?_
  refine gg_Model_upper F fk_X8_243 dX8_upper_1 ?_
  refine g_topl (b := z 8 0 0) (hRel.2.2.2.2.2.1) ?_
  exact g_lreturn F hR dX8_upper_4 (pL_i (by rfl) rfl rfl)

set_option maxRecDepth 20000 in
theorem c_X8_lower (l : Launch) (D : gD) (ad : gA) (x : gX) (y : gY) (z : gX) (hRel : Rel z y) : gC l D ad 0 yX8_lower cX8_lower 1 (some .long) [.ref (ad 8 (0))] x y (pL (z 9 0 0) (x) (y)) := by
  refine g_met RX8 rfl (by decide +kernel) [(0, .ref (ad 8 (0)))] rfl (Nat.le_of_ble_eq_true rfl) (fun Θ F hR => ?_)
  have hN := hRel.1.1
  have hRW := hRel.1.2.1
  have hDD := hRel.1.2.2.1
  have hST := hRel.2.1
  have hB := Rel_SB hRel
  have h10 := hN.2.1
  have h15 := hN.2.2.1
  refine g_aload_n F dX8_lower_0 rfl 0 rfl ?_
  refine gg_Model_lower F fk_X8_37 dX8_lower_1 ?_
  refine g_topl (b := z 9 0 0) (hRel.2.2.2.2.2.2.1) ?_
  exact g_lreturn F hR dX8_lower_4 (pL_i (by rfl) rfl rfl)

set_option maxRecDepth 20000 in
theorem c_X8_finding (l : Launch) (D : gD) (ad : gA) (x : gX) (y : gY) (z : gX) (hRel : Rel z y) : gC l D ad 0 yX8_finding cX8_finding 1 (some .int) [.ref (ad 8 (0))] x y (pI (z 18 0 0) (x) (y)) := by
  refine g_met RX8 rfl (by decide +kernel) [(0, .ref (ad 8 (0)))] rfl (Nat.le_of_ble_eq_true rfl) (fun Θ F hR => ?_)
  have hN := hRel.1.1
  have hRW := hRel.1.2.1
  have hDD := hRel.1.2.2.1
  have hST := hRel.2.1
  have hB := Rel_SB hRel
  have h10 := hN.2.1
  have h15 := hN.2.2.1
  refine g_aload_n F dX8_finding_0 rfl 0 rfl ?_
  refine gg_Model_finding F fk_X8_65 dX8_finding_1 ?_
  refine g_topi (b := z 18 0 0) (hRel.2.2.2.2.2.2.2.1) ?_
  exact g_ireturn F hR dX8_finding_4 (pI_i (by rfl) rfl rfl)

set_option maxHeartbeats 2000000 in
set_option maxRecDepth 20000 in
theorem c_X8_tried (l : Launch) (D : gD) (ad : gA) (x : gX) (y : gY) (z : gX) (r : Int) (hr : i32 r) (hRel : Rel z y) : gC l D ad 8 yX8_tried cX8_tried 5 (some .int) [.ref (ad 8 (0)), .int (J (r))] x y (pH (.int (J ((sTried z r).1))) (x) (fun w9 => Rel (sTried z r).2 w9)) := by
  refine g_met RX8 rfl (by decide +kernel) [(0, .ref (ad 8 (0))), (1, .int (J (r)))] rfl (Nat.le_of_ble_eq_true rfl) (fun Θ F hR => ?_)
  have hN := hRel.1.1
  have hRW := hRel.1.2.1
  have hDD := hRel.1.2.2.1
  have hST := hRel.2.1
  have hB := Rel_SB hRel
  have h10 := hN.2.1
  have h15 := hN.2.2.1
  refine g_iload_n F dX8_tried_0 rfl 1 rfl ?_
  refine g_callS 1 F (As := [.int (J (r))]) (st := []) (c_X8_isRow l D ad x y (r) (by omega)) rfl mk_X8_80 ki_X8_isRow kc_X8_isRow (by decide +kernel) rfl (by decide) dX8_tried_1 rfl (Nat.le_of_ble_eq_true rfl) (pB_k ?_)
  refine g_ifb_ne 9 F dX8_tried_4 rfl (fun c_1 => ?_) (fun c_1 => ?_)
  · skip
    have hw := hRW (r) (by omega) (by omega)
    have hw2 : -1 ≤ z 17 (r) 0 ∧ z 17 (r) 0 ≤ 60 := by have := hw.1; split at this <;> omega
    refine g_aload_n F dX8_tried_9 rfl 0 rfl ?_
    refine gg_Model_men F fk_X8_157 dX8_tried_10 ?_
    refine g_topi (b := z 10 0 0) (hST.2.2.2.2.1) ?_
    refine g_if_ne 19 F dX8_tried_13 (by omega) rfl (fun c_2 => ?_) (fun c_2 => ?_)
    · skip
      refine g_aload_n F dX8_tried_19 rfl 0 rfl ?_
      refine gg_Model_sizes F fk_X8_25 dX8_tried_20 ?_
      refine g_iload_n F dX8_tried_23 rfl 1 rfl ?_
      refine ga_45 F (by omega) dX8_tried_24 ?_
      refine g_topi (b := z 17 (r) 0) ((hRel.2.2.2.1.1 _ (by omega) (by omega)).1) ?_
      refine g_if_ge 34 F dX8_tried_25 (by omega) rfl (fun c_3 => ?_) (fun c_3 => ?_)
      · skip
        refine g_aload_n F dX8_tried_34 rfl 0 rfl ?_
        refine gg_Model_sizes F fk_X8_25 dX8_tried_35 ?_
        refine g_iload_n F dX8_tried_38 rfl 1 rfl ?_
        refine ga_45 F (by omega) dX8_tried_39 ?_
        refine g_topi (b := z 17 (r) 0) ((hRel.2.2.2.1.1 _ (by omega) (by omega)).1) ?_
        refine g_bipush F dX8_tried_40 (6) (by decide) ?_
        refine g_icmp_le 51 F dX8_tried_42 (by omega) (by decide) rfl (fun c_4 => ?_) (fun c_4 => ?_)
        · skip
          refine g_aload_n F dX8_tried_51 rfl 0 rfl ?_
          refine gg_Model_row F fk_X8_7 dX8_tried_52 ?_
          refine g_iconst F dX8_tried_55 (2) (by decide) ?_
          refine ga_40 F (by decide) dX8_tried_56 ?_
          refine g_topi (b := trU z) (SB_01 hB) ?_
          refine g_istore_n F [(2, .int (J (trU z))), (0, .ref (ad 8 (0))), (1, .int (J (r)))] dX8_tried_57 rfl (by decide) rfl ?_
          refine g_iconst F dX8_tried_58 (0) (by decide) ?_
          refine g_istore_n F [(3, .int (J (0))), (2, .int (J (trU z))), (0, .ref (ad 8 (0))), (1, .int (J (r)))] dX8_tried_59 rfl (by decide) rfl ?_
          have L60 : ∀ (N : Nat) (d : Int) (j : Int), 0 ≤ j ∧ j ≤ z 17 r 0 → d = bitsZ (fun i => z 6 i 0 ≠ -9 ∨ ocU z r j i ≠ 0) (z 10 0 0) → ofP z r j → (z 17 r 0 - j).toNat < N → gW Θ l D ad 5 60 [(0, .ref (ad 8 (0))), (1, .int (J (r))), (2, .int (J (d))), (3, .int (J (j)))] [] x (tlY y (z 20 r) j) := by
            intro N
            induction N with
            | zero => intro d j hj hd hl hFu; omega
            | succ N ih60 =>
              intro d j hj hd hl hFu
              have hR1 : Rel z (tlY y (z 20 r) j) := Rel_ys hRel (tl_ys _ _ _)
              have hdr : 0 ≤ d ∧ d < 2147483648 := by rw [hd]; exact lf_r hN
              have hxj := (hRW r (by omega) (by omega)).2.1 j
              refine g_iload_n F dX8_tried_60 rfl 3 rfl ?_
              refine g_aload_n F dX8_tried_61 rfl 0 rfl ?_
              refine gg_Model_sizes F fk_X8_25 dX8_tried_62 ?_
              refine g_iload_n F dX8_tried_65 rfl 1 rfl ?_
              refine ga_45 F (by omega) dX8_tried_66 ?_
              refine g_topi (b := y 45 (r)) (by rw [tlY_k _ _ _ (by decide)]) ?_
              refine g_topi (b := z 17 (r) 0) ((hRel.2.2.2.1.1 _ (by omega) (by omega)).1) ?_
              refine g_icmp_ge 128 F dX8_tried_67 (by omega) (by omega) rfl (fun c_5 => ?_) (fun c_5 => ?_)
              · skip
                have hlo : ofP z r (z 17 r 0) := by rw [show z 17 r 0 = j by omega]; exact hl
                refine g_aload_n F dX8_tried_128 rfl 0 rfl ?_
                refine g_aload_n F dX8_tried_129 rfl 0 rfl ?_
                refine gg_Model_sizes F fk_X8_25 dX8_tried_130 ?_
                refine g_iload_n F dX8_tried_133 rfl 1 rfl ?_
                refine ga_45 F (by omega) dX8_tried_134 ?_
                refine g_topi (b := y 45 (r)) (by rw [tlY_k _ _ _ (by decide)]) ?_
                refine g_topi (b := z 17 (r) 0) ((hRel.2.2.2.1.1 _ (by omega) (by omega)).1) ?_
                refine gp_Model_lineSize F fk_X8_250 dX8_tried_135 ?_
                have hR2 : Rel z (yU (tlY y (z 20 r) j) 14 0 (z 17 r 0)) := Rel_ys hRel (tl_y2 _ _ _ _)
                have hLN := ofP_LN (by omega) hlo
                have hev := acZ_ev hN (INV_UW hRel.1) (by omega) hLN
                refine g_aload_n F dX8_tried_138 rfl 0 rfl ?_
                refine g_callV 0 F (As := []) (st := []) (c_X8_wrongInLine l D ad x (yU (tlY y (z 20 r) j) 14 (0) (z 17 (r) 0)) z (z 20 r) (z 17 r 0) (hR2.2.1) (hN) (Rel_SB hR2) (INV_UW hRel.1) (by omega) (yU_same _ _ _ _) (fun a a0 a1 => by rw [yU_k (by decide)]; exact tlY_i _ _ a0 (by omega)) (hLN)) (gR_8) rfl mk_X8_262 ki_X8_wrongInLine kc_X8_wrongInLine (by decide +kernel) rfl (by decide) dX8_tried_139 rfl (Nat.le_of_ble_eq_true rfl) (pH_k (fun v_139 hG_139 => ?_))
                have hR3 : Rel z v_139 := Rel_ys hR2 (WLP_ys hG_139)
                have hevr := evZ_r hN (z 20 r) (k := z 17 r 0) (by omega)
                refine g_istore_n F [(3, .int (J ((evZ z (z 20 r) (z 17 r 0)).1))), (0, .ref (ad 8 (0))), (1, .int (J (r))), (2, .int (J (d)))] dX8_tried_142 rfl (by decide) rfl ?_
                refine g_aload_n F dX8_tried_143 rfl 1 rfl ?_
                refine g_aload_n F dX8_tried_144 rfl 1 rfl ?_
                refine gg_Model_row F fk_X8_7 dX8_tried_145 ?_
                refine g_sipush F dX8_tried_148 (2629) (by decide) ?_
                refine ga_40 F (by decide) dX8_tried_151 ?_
                refine g_topi (b := (evZ z (z 20 r) (z 17 r 0)).2.2) ((SB_0 hG_139.2.2).trans hev.2.1) ?_
                refine gp_Model_asked F fk_X8_69 dX8_tried_152 ?_
                refine g_iload_n F dX8_tried_155 rfl 0 rfl ?_
                exact g_ireturn F hR dX8_tried_156 (pH_z (by first | (rw [tdA (by omega)]; done) | (rw [tdB (by omega) (by omega)]; done) | (rw [tdC (by omega) (by omega) (by omega)]; done) | (rw [tdD (by omega) (by omega) (by omega)]; done) | (rw [tdE (by omega) (by omega) (by omega) hj.1 (by omega) hbad]; done) | (rw [tdF (by omega) (by omega) (by omega) hlo]; done)) (by first | (rw [tdA (by omega)]; exact hRel) | (rw [tdB (by omega) (by omega)]; exact hRel) | (rw [tdC (by omega) (by omega) (by omega)]; exact Rel_find hRel (by decide)) | (rw [tdD (by omega) (by omega) (by omega)]; exact Rel_find hRel (by decide)) | (rw [tdE (by omega) (by omega) (by omega) hj.1 (by omega) hbad]; exact Rel_find hR1 (by decide)) | (rw [tdF (by omega) (by omega) (by omega) hlo]; exact Rel_tell hR3 _)) rfl)
              · skip
                refine g_aload_n F dX8_tried_70 rfl 0 rfl ?_
                refine gg_Model_items F fk_X8_28 dX8_tried_71 ?_
                refine g_bipush F dX8_tried_74 (40) (by decide) ?_
                refine g_iload_n F dX8_tried_76 rfl 1 rfl ?_
                refine g_imul F dX8_tried_77 ?_
                refine g_iload_n F dX8_tried_78 rfl 3 rfl ?_
                refine g_iadd F dX8_tried_79 ?_
                refine ga_46 F (by omega) dX8_tried_80 ?_
                refine g_topi (b := y 46 (((40) * (r)) + (j))) (by rw [tlY_k _ _ _ (by decide)]) ?_
                refine g_topi (b := z 20 (r) (j)) ((hRel.2.2.2.1.1 _ (by omega) (by omega)).2 _ (by omega) (by omega)) ?_
                refine g_istore F [(4, .int (J (z 20 (r) (j)))), (0, .ref (ad 8 (0))), (1, .int (J (r))), (2, .int (J (d))), (3, .int (J (j)))] dX8_tried_81 (by decide) rfl ?_
                refine g_aload_n F dX8_tried_83 rfl 1 rfl ?_
                refine g_iload F dX8_tried_84 0 rfl ?_
                refine g_callV 1 F (As := [.int (J (z 20 (r) (j)))]) (st := []) (c_X8_isMan l D ad x (tlY y (z 20 r) j) z (z 20 (r) (j)) (hR1.2.1) (hN) (hxj)) (gR_8) rfl mk_X8_191 ki_X8_isMan kc_X8_isMan (by decide +kernel) rfl (by decide) dX8_tried_86 rfl (Nat.le_of_ble_eq_true rfl) (pB_k ?_)
                refine g_ifb_eq 101 F dX8_tried_89 rfl (fun c_6 => ?_) (fun c_6 => ?_)
                · skip
                  have hbad : ¬ (mnN z (z 20 r j) ∧ z 6 (z 20 r j) 0 = -9 ∧ ocU z r j (z 20 r j) = 0) := fun q => c_6 q.1
                  refine g_aload_n F dX8_tried_101 rfl 1 rfl ?_
                  refine g_iconst F dX8_tried_102 (3) (by decide) ?_
                  refine g_callV 1 F (As := [.int (J (3))]) (st := []) (c_X8_find l D ad x (tlY y (z 20 r) j) (3) (by omega)) (gR_8) rfl mk_X8_84 ki_X8_find kc_X8_find (by decide +kernel) rfl (by decide) dX8_tried_103 rfl (Nat.le_of_ble_eq_true rfl) (pI_k ?_)
                  exact g_ireturn F hR dX8_tried_106 (pH_z (by first | (rw [tdA (by omega)]; done) | (rw [tdB (by omega) (by omega)]; done) | (rw [tdC (by omega) (by omega) (by omega)]; done) | (rw [tdD (by omega) (by omega) (by omega)]; done) | (rw [tdE (by omega) (by omega) (by omega) hj.1 (by omega) hbad]; done) | (rw [tdF (by omega) (by omega) (by omega) hlo]; done)) (by first | (rw [tdA (by omega)]; exact hRel) | (rw [tdB (by omega) (by omega)]; exact hRel) | (rw [tdC (by omega) (by omega) (by omega)]; exact Rel_find hRel (by decide)) | (rw [tdD (by omega) (by omega) (by omega)]; exact Rel_find hRel (by decide)) | (rw [tdE (by omega) (by omega) (by omega) hj.1 (by omega) hbad]; exact Rel_find hR1 (by decide)) | (rw [tdF (by omega) (by omega) (by omega) hlo]; exact Rel_tell hR3 _)) rfl)
                · skip
                  have hmn : mnN z (z 20 r j) := c_6
                  have hmr : 0 ≤ z 20 r j ∧ z 20 r j < 6 := by have q := hmn; omega
                  have hbt : d / p2 (z 20 r j) % 2 = 1 ↔ (z 6 (z 20 r j) 0 ≠ -9 ∨ ocU z r j (z 20 r j) ≠ 0) := by rw [hd]; exact bits_tb (P := fun i => z 6 i 0 ≠ -9 ∨ ocU z r j i ≠ 0) hmn.1 hmn.2
                  refine g_iload_n F dX8_tried_92 rfl 3 rfl ?_
                  refine g_iload F dX8_tried_93 0 rfl ?_
                  refine g_callS 2 F (As := [.int (J (d)), .int (J (z 20 (r) (j)))]) (st := []) (c_X8_has l D ad x (tlY y (z 20 r) j) (d) (z 20 (r) (j)) (hdr) (by omega)) rfl mk_X8_216 ki_X8_has kc_X8_has (by decide +kernel) rfl (by decide) dX8_tried_95 rfl (Nat.le_of_ble_eq_true rfl) (pB_k ?_)
                  refine g_ifb_eq 107 F dX8_tried_98 rfl (fun c_7 => ?_) (fun c_7 => ?_)
                  · skip
                    have hok : z 6 (z 20 r j) 0 = -9 ∧ ocU z r j (z 20 r j) = 0 := by (have q := c_7; rw [hbt] at q; omega)
                    clear hbt
                    have hp2 := p2_pos (z 20 r j)
                    have hp2b := p2_le30 (i := z 20 r j) (by omega)
                    refine g_iload_n F dX8_tried_107 rfl 3 rfl ?_
                    refine g_iconst F dX8_tried_108 (1) (by decide) ?_
                    refine g_iload F dX8_tried_109 0 rfl ?_
                    refine g_ishl F dX8_tried_111 (p2 (z 20 (r) (j))) (J_shl (by omega)) ?_
                    refine g_ior F dX8_tried_112 (bitsZ (fun q => (z 6 q 0 ≠ -9 ∨ ocU z r j q ≠ 0) ∨ q = z 20 r j) (z 10 0 0)) (by rw [hd]; exact bits_put (P := fun i => z 6 i 0 ≠ -9 ∨ ocU z r j i ≠ 0) hmn.1 hmn.2) ?_
                    refine g_istore_n F [(2, .int (J (bitsZ (fun q => (z 6 q 0 ≠ -9 ∨ ocU z r j q ≠ 0) ∨ q = z 20 r j) (z 10 0 0)))), (4, .int (J (z 20 (r) (j)))), (0, .ref (ad 8 (0))), (1, .int (J (r))), (3, .int (J (j)))] dX8_tried_113 rfl (by decide) rfl ?_
                    refine g_aload_n F dX8_tried_114 rfl 2 rfl ?_
                    refine gg_Model_line F fk_X8_50 dX8_tried_115 ?_
                    refine g_iload_n F dX8_tried_118 rfl 4 rfl ?_
                    refine g_iload F dX8_tried_119 1 rfl ?_
                    refine gs_52 F (by omega) dX8_tried_121 ?_
                    refine g_iinc F [(3, .int (J (j + 1))), (2, .int (J (bitsZ (fun q => (z 6 q 0 ≠ -9 ∨ ocU z r j q ≠ 0) ∨ q = z 20 r j) (z 10 0 0)))), (4, .int (J (z 20 (r) (j)))), (0, .ref (ad 8 (0))), (1, .int (J (r)))] 4 rfl dX8_tried_122 (by decide) rfl ?_
                    refine g_goto F 60 dX8_tried_125 rfl ?_
                    refine g_sub [3, 4, 1, 0] (lv' := [(0, .ref (ad 8 (0))), (1, .int (J (r))), (2, .int (J (bitsZ (fun q => (z 6 q 0 ≠ -9 ∨ ocU z r j q ≠ 0) ∨ q = z 20 r j) (z 10 0 0)))), (3, .int (J (j + 1)))]) rfl ?_
                    exact gW_eq (ih60 (bitsZ (fun q => (z 6 q 0 ≠ -9 ∨ ocU z r j q ≠ 0) ∨ q = z 20 r j) (z 10 0 0)) (j + 1) (by omega) (bitsZ_cong (fun i _ _ => by have h1 := ocU_s z r i hj.1; have h2 := ocU_0 z r i hj.1; show (z 6 i 0 ≠ -9 ∨ ocU z r j i ≠ 0) ∨ i = z 20 r j ↔ z 6 i 0 ≠ -9 ∨ ocU z r (j + 1) i ≠ 0; rw [h1]; split <;> omega)) ((mm_s (f := fun j => mnN z (z 20 r j) ∧ z 6 (z 20 r j) 0 = -9 ∧ ocU z r j (z 20 r j) = 0) (by omega)).mpr ⟨hl, hmn, hok⟩) (by omega)) rfl rfl rfl (rfl) (tlY_s _ _ hj.1)
                  · skip
                    have hbad : ¬ (mnN z (z 20 r j) ∧ z 6 (z 20 r j) 0 = -9 ∧ ocU z r j (z 20 r j) = 0) := by (have q := hbt.mp c_7; omega)
                    clear hbt
                    refine g_aload_n F dX8_tried_101 rfl 1 rfl ?_
                    refine g_iconst F dX8_tried_102 (3) (by decide) ?_
                    refine g_callV 1 F (As := [.int (J (3))]) (st := []) (c_X8_find l D ad x (tlY y (z 20 r) j) (3) (by omega)) (gR_8) rfl mk_X8_84 ki_X8_find kc_X8_find (by decide +kernel) rfl (by decide) dX8_tried_103 rfl (Nat.le_of_ble_eq_true rfl) (pI_k ?_)
                    exact g_ireturn F hR dX8_tried_106 (pH_z (by first | (rw [tdA (by omega)]; done) | (rw [tdB (by omega) (by omega)]; done) | (rw [tdC (by omega) (by omega) (by omega)]; done) | (rw [tdD (by omega) (by omega) (by omega)]; done) | (rw [tdE (by omega) (by omega) (by omega) hj.1 (by omega) hbad]; done) | (rw [tdF (by omega) (by omega) (by omega) hlo]; done)) (by first | (rw [tdA (by omega)]; exact hRel) | (rw [tdB (by omega) (by omega)]; exact hRel) | (rw [tdC (by omega) (by omega) (by omega)]; exact Rel_find hRel (by decide)) | (rw [tdD (by omega) (by omega) (by omega)]; exact Rel_find hRel (by decide)) | (rw [tdE (by omega) (by omega) (by omega) hj.1 (by omega) hbad]; exact Rel_find hR1 (by decide)) | (rw [tdF (by omega) (by omega) (by omega) hlo]; exact Rel_tell hR3 _)) rfl)
          refine g_sub [2, 3, 1, 0] (lv' := [(0, .ref (ad 8 (0))), (1, .int (J (r))), (2, .int (J (trU z))), (3, .int (J (0)))]) rfl ?_
          exact gW_eq (L60 _ (trU z) (0) (by omega) (bitsZ_cong (fun i _ _ => ⟨fun q => Or.inl q, fun q => q.elim id (fun w => absurd rfl w)⟩)) (rfl) (Nat.lt_succ_self _)) rfl rfl rfl (rfl) ((tlY_0 _ _).symm)
        · skip
          refine g_aload_n F dX8_tried_45 rfl 0 rfl ?_
          refine g_iconst F dX8_tried_46 (5) (by decide) ?_
          refine g_callV 1 F (As := [.int (J (5))]) (st := []) (c_X8_find l D ad x y (5) (by omega)) (gR_8) rfl mk_X8_84 ki_X8_find kc_X8_find (by decide +kernel) rfl (by decide) dX8_tried_47 rfl (Nat.le_of_ble_eq_true rfl) (pI_k ?_)
          exact g_ireturn F hR dX8_tried_50 (pH_z (by first | (rw [tdA (by omega)]; done) | (rw [tdB (by omega) (by omega)]; done) | (rw [tdC (by omega) (by omega) (by omega)]; done) | (rw [tdD (by omega) (by omega) (by omega)]; done) | (rw [tdE (by omega) (by omega) (by omega) hj.1 (by omega) hbad]; done) | (rw [tdF (by omega) (by omega) (by omega) hlo]; done)) (by first | (rw [tdA (by omega)]; exact hRel) | (rw [tdB (by omega) (by omega)]; exact hRel) | (rw [tdC (by omega) (by omega) (by omega)]; exact Rel_find hRel (by decide)) | (rw [tdD (by omega) (by omega) (by omega)]; exact Rel_find hRel (by decide)) | (rw [tdE (by omega) (by omega) (by omega) hj.1 (by omega) hbad]; exact Rel_find hR1 (by decide)) | (rw [tdF (by omega) (by omega) (by omega) hlo]; exact Rel_tell hR3 _)) rfl)
      · skip
        refine g_aload_n F dX8_tried_28 rfl 0 rfl ?_
        refine g_iconst F dX8_tried_29 (1) (by decide) ?_
        refine g_callV 1 F (As := [.int (J (1))]) (st := []) (c_X8_find l D ad x y (1) (by omega)) (gR_8) rfl mk_X8_84 ki_X8_find kc_X8_find (by decide +kernel) rfl (by decide) dX8_tried_30 rfl (Nat.le_of_ble_eq_true rfl) (pI_k ?_)
        exact g_ireturn F hR dX8_tried_33 (pH_z (by first | (rw [tdA (by omega)]; done) | (rw [tdB (by omega) (by omega)]; done) | (rw [tdC (by omega) (by omega) (by omega)]; done) | (rw [tdD (by omega) (by omega) (by omega)]; done) | (rw [tdE (by omega) (by omega) (by omega) hj.1 (by omega) hbad]; done) | (rw [tdF (by omega) (by omega) (by omega) hlo]; done)) (by first | (rw [tdA (by omega)]; exact hRel) | (rw [tdB (by omega) (by omega)]; exact hRel) | (rw [tdC (by omega) (by omega) (by omega)]; exact Rel_find hRel (by decide)) | (rw [tdD (by omega) (by omega) (by omega)]; exact Rel_find hRel (by decide)) | (rw [tdE (by omega) (by omega) (by omega) hj.1 (by omega) hbad]; exact Rel_find hR1 (by decide)) | (rw [tdF (by omega) (by omega) (by omega) hlo]; exact Rel_tell hR3 _)) rfl)
    · skip
      refine g_bipush F dX8_tried_16 (-4) (by decide) ?_
      exact g_ireturn F hR dX8_tried_18 (pH_z (by first | (rw [tdA (by omega)]; done) | (rw [tdB (by omega) (by omega)]; done) | (rw [tdC (by omega) (by omega) (by omega)]; done) | (rw [tdD (by omega) (by omega) (by omega)]; done) | (rw [tdE (by omega) (by omega) (by omega) hj.1 (by omega) hbad]; done) | (rw [tdF (by omega) (by omega) (by omega) hlo]; done)) (by first | (rw [tdA (by omega)]; exact hRel) | (rw [tdB (by omega) (by omega)]; exact hRel) | (rw [tdC (by omega) (by omega) (by omega)]; exact Rel_find hRel (by decide)) | (rw [tdD (by omega) (by omega) (by omega)]; exact Rel_find hRel (by decide)) | (rw [tdE (by omega) (by omega) (by omega) hj.1 (by omega) hbad]; exact Rel_find hR1 (by decide)) | (rw [tdF (by omega) (by omega) (by omega) hlo]; exact Rel_tell hR3 _)) rfl)
  · skip
    refine g_iconst F dX8_tried_7 (-1) (by decide) ?_
    exact g_ireturn F hR dX8_tried_8 (pH_z (by first | (rw [tdA (by omega)]; done) | (rw [tdB (by omega) (by omega)]; done) | (rw [tdC (by omega) (by omega) (by omega)]; done) | (rw [tdD (by omega) (by omega) (by omega)]; done) | (rw [tdE (by omega) (by omega) (by omega) hj.1 (by omega) hbad]; done) | (rw [tdF (by omega) (by omega) (by omega) hlo]; done)) (by first | (rw [tdA (by omega)]; exact hRel) | (rw [tdB (by omega) (by omega)]; exact hRel) | (rw [tdC (by omega) (by omega) (by omega)]; exact Rel_find hRel (by decide)) | (rw [tdD (by omega) (by omega) (by omega)]; exact Rel_find hRel (by decide)) | (rw [tdE (by omega) (by omega) (by omega) hj.1 (by omega) hbad]; exact Rel_find hR1 (by decide)) | (rw [tdF (by omega) (by omega) (by omega) hlo]; exact Rel_tell hR3 _)) rfl)
