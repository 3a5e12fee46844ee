theorem sal3N {x : gX} {b n : Int} (hL : LOK x b n) : ∀ j : Nat, (j : Int) ≤ n → ∀ i : Int, 0 ≤ i → i < x 10 0 0 → repN x b j 5 i 0 ≤ 3
  | 0, _, i, h0, h1 => by
    show rsM (xU x 15 0 0 8) (x 10 0 0) 5 i 0 ≤ 3
    unfold rsM
    rw [if_pos ⟨Or.inl rfl, h0, h1, rfl⟩]; decide
  | j + 1, hj, i, h0, h1 => by
    have ih := sal3N hL j (by omega) i h0 h1
    have q := (hL (j : Int) (by omega) (by omega)).2.1
    show actM (repN x b j) (x 21 b (j : Int)) (x 22 b (j : Int)) 5 i 0 ≤ 3
    unfold actM
    split
    · rw [xU_k (by decide)]; exact ih
    · split
      · rename_i h
        rw [xU_at]
        split
        · have e := q h
          have e2 : repM x b (j : Int) = repN x b j := by unfold repM; rw [Int.toNat_natCast]
          rw [e2] at e
          omega
        · exact ih
      · split
        · rw [xU_k (by decide), xU_k (by decide), xU_k (by decide)]; exact ih
        · exact ih
theorem sal3 {x : gX} (hV : INV x) {i : Int} (h0 : 0 ≤ i) (h1 : i < x 10 0 0) : x 5 i 0 ≤ 3 := by
  obtain ⟨_, _, hD, hC, _⟩ := hV
  rw [(hC.2 i h0 h1).1]
  exact sal3N (hD.2 0 (by decide) (by decide)) _ (by have := hD.1.1; omega) i h0 h1
theorem sn_eq (z : gX) (i : Int) : snU z i = (max 0 (bU z i (z 15 0 0) - (z 13 0 0 + 2 * z 5 i 0)) + 1) / 2 := by
  have e : bU z i (z 15 0 0) - (z 13 0 0 + 2 * z 5 i 0) = lU z i (z 15 0 0) := by unfold lU; omega
  rw [e]
  unfold snU
  rcases Int.le_total 0 (lU z i (z 15 0 0)) with q | q
  · rw [tdiv2_p (by omega)]; omega
  · rcases (show lU z i (z 15 0 0) = 0 ∨ lU z i (z 15 0 0) + 1 ≤ 0 by omega) with c | c
    · rw [c]; decide
    · rw [tdiv2_n c]; omega
theorem cc_eq (z : gX) (i p : Int) : ccU z i p = (if bU z i (z 15 0 0) + 3 ≤ z 13 0 0 + 2 * z 5 i 0 then p else 0) + (if bU z i (z 15 0 0) ≤ z 13 0 0 + 2 * z 5 i 0 then 12 - p else 0) := by
  unfold ccU lU
  (repeat' split) <;> omega
abbrev hrP (z : gX) (i : Int) : Prop := z 6 i 0 = -9 ∧ cU z i (z 15 0 0)
def fdM (y : gY) (k0 : Int) (f : Int → Int) (m : Int) : gY := fun k j => if k = k0 ∧ 0 ≤ j ∧ j < m then f j else y k j
theorem fdM_0 (y : gY) (k0 : Int) (f : Int → Int) : fdM y k0 f 0 = y := by funext k j; unfold fdM; rw [if_neg (by omega)]
theorem fdM_s (y : gY) (k0 : Int) (f : Int → Int) {m : Int} (hm : 0 ≤ m) : yU (fdM y k0 f m) k0 m (f m) = fdM y k0 f (m + 1) := by
  funext k j
  unfold yU fdM
  by_cases h1 : k = k0 ∧ j = m
  · rw [if_pos h1, if_pos ⟨h1.1, by omega, by omega⟩, h1.2]
  · rw [if_neg h1]
    by_cases h2 : k = k0 ∧ 0 ≤ j ∧ j < m
    · rw [if_pos h2, if_pos ⟨h2.1, h2.2.1, by omega⟩]
    · rw [if_neg h2, if_neg (by omega)]
theorem fdM_k (y : gY) (k0 : Int) (f : Int → Int) (m : Int) {k : Int} (h : k ≠ k0) : fdM y k0 f m k = y k := by funext j; unfold fdM; rw [if_neg (fun q => h q.1)]
theorem fdM_in (y : gY) (k0 : Int) (f : Int → Int) {m j : Int} (h0 : 0 ≤ j) (h1 : j < m) : fdM y k0 f m k0 j = f j := by unfold fdM; rw [if_pos ⟨rfl, h0, h1⟩]
theorem ys_fd {y w : gY} (h : ys y w) {k0 : Int} (hk : k0 = 54 ∨ k0 = 55) (f : Int → Int) (m : Int) : ys y (fdM w k0 f m) := ys_tr h (fun k j c => by rw [fdM_k _ _ _ _ (by omega)])
def DY (z : gX) (n : Int) (y w : gY) (j : Int) : Prop := ys y w ∧ ∀ h : Int, 0 ≤ h → h ≤ 30 → w 54 h = dwN (fun h => foU z h) n (n - 1 - j).toNat h
theorem DY_s {z : gX} {n : Int} {y w : gY} {j : Int} (hj : 0 ≤ j ∧ j < n) (h : DY z n y w j) : DY z n y (fdM (fdM w 55 (fun q => chZ (w 54) q (j % 2 = 0)) 31) 54 (fun q => fdM w 55 (fun q => chZ (w 54) q (j % 2 = 0)) 31 55 q) 31) (j + (-1)) := by
  refine ⟨ys_fd (ys_fd h.1 (Or.inr rfl) _ _) (Or.inl rfl) _ _, fun q q0 q1 => ?_⟩
  rw [fdM_in _ _ _ q0 (by omega), fdM_in _ _ _ q0 (by omega), show (n - 1 - (j + (-1))).toNat = (n - 1 - j).toNat + 1 by omega]
  show _ = chZ (dwN (fun h => foU z h) n (n - 1 - j).toNat) q ((n - 1 - ((n - 1 - j).toNat : Int)) % 2 = 0)
  exact chZ_c (by rw [show n - 1 - ((n - 1 - j).toNat : Int) = j by omega]) ⟨q0, q1⟩ h.2
set_option maxRecDepth 20000 in
theorem c_X8_isTold (l : Launch) (D : gD) (ad : gA) (x : gX) (y : gY) (z : gX) (i r d e : Int) (hi : 0 ≤ i ∧ i < z 10 0 0) (hr : 0 ≤ r ∧ r < 6) (hd : 0 ≤ d ∧ d ≤ 5) (he : 0 ≤ e ∧ e ≤ 9) (hRel : Rel z y) (hs : 0 ≤ z 17 r 0 ∧ z 17 r 0 ≤ 40 ∧ z 17 r 0 % 2 = 0) (hp : ∀ q : Int, 0 ≤ q → 2 * q < z 17 r 0 → (0 ≤ z 20 r (2 * q) ∧ z 20 r (2 * q) < 31) ∧ 0 ≤ z 20 r (2 * q + 1) ∧ z 20 r (2 * q + 1) ≤ 2) : gC l D ad 4 yX8_isTold cX8_isTold 7 (some .boolean) [.ref (ad 8 (0)), .int (J (i)), .int (J (r)), .int (J (d)), .int (J (e))] x y (pB (wkP z i d e r) (x) (y)) := by
  refine g_met RX8 rfl (by decide +kernel) [(0, .ref (ad 8 (0))), (1, .int (J (i))), (2, .int (J (r))), (3, .int (J (d))), (4, .int (J (e)))] rfl (Nat.le_of_ble_eq_true rfl) (fun Θ F hR => ?_)
  have hN := hRel.1.1
  have hRW := hRel.1.2.1
  have hDD := hRel.1.2.2.1
  have hST := hRel.2.1
  have hB := Rel_SB hRel
  have h10 := hN.2.1
  have h15 := hN.2.2.1
  clear hRW hDD
  refine g_iconst F dX8_isTold_0 (1) (by decide) ?_
  refine g_istore F [(5, .int (J (1))), (0, .ref (ad 8 (0))), (1, .int (J (i))), (2, .int (J (r))), (3, .int (J (d))), (4, .int (J (e)))] dX8_isTold_1 (by decide) rfl ?_
  refine g_bipush F dX8_isTold_3 (40) (by decide) ?_
  refine g_iload_n F dX8_isTold_5 rfl 3 rfl ?_
  refine g_imul F dX8_isTold_6 ?_
  refine g_istore F [(6, .int (J ((40) * (r)))), (5, .int (J (1))), (0, .ref (ad 8 (0))), (1, .int (J (i))), (2, .int (J (r))), (3, .int (J (d))), (4, .int (J (e)))] dX8_isTold_7 (by decide) rfl ?_
  have L9 : ∀ (N : Nat) (a : Int) (k : Int), (40 * r ≤ k ∧ k ≤ 40 * r + z 17 r 0) ∧ (k - 40 * r) % 2 = 0 → a = 0 ∨ a = 1 → (a = 1 → sumZ (fun q => if vKH z i d e (z 20 r (2 * q)) = z 20 r (2 * q + 1) then 0 else 1) ((k - 40 * r) / 2) = 0) → (a = 0 → ¬ wkP z i d e r) → (40 * r + z 17 r 0 - k).toNat < N → gW Θ l D ad 7 9 [(0, .ref (ad 8 (0))), (1, .int (J (i))), (2, .int (J (r))), (3, .int (J (d))), (4, .int (J (e))), (5, .int (J (a))), (6, .int (J (k)))] [] x y := by
    intro N
    induction N with
    | zero => intro a k hk ha01 ha1 ha0 hFu; omega
    | succ N ih9 =>
      intro a k hk ha01 ha1 ha0 hFu
      refine g_iload F dX8_isTold_9 6 rfl ?_
      refine g_bipush F dX8_isTold_11 (40) (by decide) ?_
      refine g_iload_n F dX8_isTold_13 rfl 2 rfl ?_
      refine g_imul F dX8_isTold_14 ?_
      refine g_aload_n F dX8_isTold_15 rfl 0 rfl ?_
      refine gg_Model_sizes F fk_X8_25 dX8_isTold_16 ?_
      refine g_iload_n F dX8_isTold_19 rfl 2 rfl ?_
      refine ga_45 F (by omega) dX8_isTold_20 ?_
      refine g_topi (b := z 17 (r) 0) ((hRel.2.2.2.1.1 _ (by omega) (by omega)).1) ?_
      refine g_iadd F dX8_isTold_21 ?_
      refine g_icmp_ge 70 F dX8_isTold_22 (by omega) (by omega) rfl (fun c_1 => ?_) (fun c_1 => ?_)
      · skip
        refine g_iload F dX8_isTold_70 5 rfl ?_
        rcases ha01 with q | q
        · exact g_zreturn F hR dX8_isTold_72 (by omega) (pB_i (by rw [if_neg (ha0 q), q]) rfl rfl)
        · exact g_zreturn F hR dX8_isTold_72 (by omega) (pB_i (by (have q2 := ha1 q); rw [show k - 40 * r = z 17 r 0 by omega] at q2; rw [if_pos q2, q]) rfl rfl)
      · skip
        refine g_iload F dX8_isTold_25 5 rfl ?_
        refine g_if_eq 61 F dX8_isTold_27 (by omega) rfl (fun c_2 => ?_) (fun c_2 => ?_)
        · skip
          refine g_iconst F dX8_isTold_61 (0) (by decide) ?_
          refine g_istore F [(5, .int (J (0))), (0, .ref (ad 8 (0))), (1, .int (J (i))), (2, .int (J (r))), (3, .int (J (d))), (4, .int (J (e))), (6, .int (J (k)))] dX8_isTold_62 (by decide) rfl ?_
          refine g_iinc F [(6, .int (J (k + 2))), (5, .int (J (0))), (0, .ref (ad 8 (0))), (1, .int (J (i))), (2, .int (J (r))), (3, .int (J (d))), (4, .int (J (e)))] 6 rfl dX8_isTold_64 (by decide) rfl ?_
          refine g_goto F 9 dX8_isTold_67 rfl ?_
          refine g_sub [2, 3, 4, 5, 6, 1, 0] (lv' := [(0, .ref (ad 8 (0))), (1, .int (J (i))), (2, .int (J (r))), (3, .int (J (d))), (4, .int (J (e))), (5, .int (J (0))), (6, .int (J (k + 2)))]) rfl ?_
          exact ih9 (0) (k + 2) (by omega) (by omega) (fun q => by first | (exfalso; omega) | (rw [show k + 2 - 40 * r = k - 40 * r + 2 by omega]; exact (wk_s (by omega) (by omega)).mpr ⟨hp1, by omega⟩)) (fun q => by first | (exfalso; omega) | exact ha0 (by omega) | exact wk_no (j := k - 40 * r) (by omega) (by omega) (by omega) (by omega)) (by omega)
        · skip
          have hp1 := ha1 (by omega)
          clear ha1
          have hpk := hp ((k - 40 * r) / 2) (by omega) (by omega)
          rw [show 2 * ((k - 40 * r) / 2) = k - 40 * r by omega] at hpk
          have hv := vKH_r z i d e (z 20 r (k - 40 * r))
          refine g_aload_n F dX8_isTold_30 rfl 0 rfl ?_
          refine g_iload_n F dX8_isTold_31 rfl 1 rfl ?_
          refine g_iload_n F dX8_isTold_32 rfl 3 rfl ?_
          refine g_iload F dX8_isTold_33 4 rfl ?_
          refine g_aload_n F dX8_isTold_35 rfl 0 rfl ?_
          refine gg_Model_items F fk_X8_28 dX8_isTold_36 ?_
          refine g_iload F dX8_isTold_39 6 rfl ?_
          refine ga_46 F (by omega) dX8_isTold_41 ?_
          refine g_topi (b := z 20 r (k - 40 * r)) (by (have e := (hRel.2.2.2.1.1 r (by omega) (by omega)).2 (k - 40 * r) (by omega) (by omega)); rw [← e]; congr 1; omega) ?_
          refine g_callV 4 F (As := [.int (J (i)), .int (J (d)), .int (J (e)), .int (J (z 20 r (k - 40 * r)))]) (st := []) (c_X8_tellsBy l D ad x y z (i) (d) (e) (z 20 r (k - 40 * r)) (hST) (hN) (hB) (by omega) (by omega) (by omega) (by omega)) (gR_8) rfl mk_X8_280 ki_X8_tellsBy kc_X8_tellsBy (by decide +kernel) rfl (by decide) dX8_isTold_42 rfl (Nat.le_of_ble_eq_true rfl) (pI_k ?_)
          refine g_aload_n F dX8_isTold_45 rfl 0 rfl ?_
          refine gg_Model_items F fk_X8_28 dX8_isTold_46 ?_
          refine g_iload F dX8_isTold_49 6 rfl ?_
          refine g_iconst F dX8_isTold_51 (1) (by decide) ?_
          refine g_iadd F dX8_isTold_52 ?_
          refine ga_46 F (by omega) dX8_isTold_53 ?_
          refine g_topi (b := z 20 r (k - 40 * r + 1)) (by (have e := (hRel.2.2.2.1.1 r (by omega) (by omega)).2 (k - 40 * r + 1) (by omega) (by omega)); rw [← e]; congr 1; omega) ?_
          refine g_icmp_ne 61 F dX8_isTold_54 (by omega) (by omega) rfl (fun c_3 => ?_) (fun c_3 => ?_)
          · skip
            refine g_iconst F dX8_isTold_61 (0) (by decide) ?_
            refine g_istore F [(5, .int (J (0))), (0, .ref (ad 8 (0))), (1, .int (J (i))), (2, .int (J (r))), (3, .int (J (d))), (4, .int (J (e))), (6, .int (J (k)))] dX8_isTold_62 (by decide) rfl ?_
            refine g_iinc F [(6, .int (J (k + 2))), (5, .int (J (0))), (0, .ref (ad 8 (0))), (1, .int (J (i))), (2, .int (J (r))), (3, .int (J (d))), (4, .int (J (e)))] 6 rfl dX8_isTold_64 (by decide) rfl ?_
            refine g_goto F 9 dX8_isTold_67 rfl ?_
            refine g_sub [2, 3, 4, 5, 6, 1, 0] (lv' := [(0, .ref (ad 8 (0))), (1, .int (J (i))), (2, .int (J (r))), (3, .int (J (d))), (4, .int (J (e))), (5, .int (J (0))), (6, .int (J (k + 2)))]) rfl ?_
            exact ih9 (0) (k + 2) (by omega) (by omega) (fun q => by first | (exfalso; omega) | (rw [show k + 2 - 40 * r = k - 40 * r + 2 by omega]; exact (wk_s (by omega) (by omega)).mpr ⟨hp1, by omega⟩)) (fun q => by first | (exfalso; omega) | exact ha0 (by omega) | exact wk_no (j := k - 40 * r) (by omega) (by omega) (by omega) (by omega)) (by omega)
          · skip
            refine g_iconst F dX8_isTold_57 (1) (by decide) ?_
            refine g_goto F 62 dX8_isTold_58 rfl ?_
            refine g_istore F [(5, .int (J (1))), (0, .ref (ad 8 (0))), (1, .int (J (i))), (2, .int (J (r))), (3, .int (J (d))), (4, .int (J (e))), (6, .int (J (k)))] dX8_isTold_62 (by decide) rfl ?_
            refine g_iinc F [(6, .int (J (k + 2))), (5, .int (J (1))), (0, .ref (ad 8 (0))), (1, .int (J (i))), (2, .int (J (r))), (3, .int (J (d))), (4, .int (J (e)))] 6 rfl dX8_isTold_64 (by decide) rfl ?_
            refine g_goto F 9 dX8_isTold_67 rfl ?_
            refine g_sub [2, 3, 4, 5, 6, 1, 0] (lv' := [(0, .ref (ad 8 (0))), (1, .int (J (i))), (2, .int (J (r))), (3, .int (J (d))), (4, .int (J (e))), (5, .int (J (1))), (6, .int (J (k + 2)))]) rfl ?_
            exact ih9 (1) (k + 2) (by omega) (by omega) (fun q => by first | (exfalso; omega) | (rw [show k + 2 - 40 * r = k - 40 * r + 2 by omega]; exact (wk_s (by omega) (by omega)).mpr ⟨hp1, by omega⟩)) (fun q => by first | (exfalso; omega) | exact ha0 (by omega) | exact wk_no (j := k - 40 * r) (by omega) (by omega) (by omega) (by omega)) (by omega)
  refine g_sub [2, 3, 4, 5, 6, 1, 0] (lv' := [(0, .ref (ad 8 (0))), (1, .int (J (i))), (2, .int (J (r))), (3, .int (J (d))), (4, .int (J (e))), (5, .int (J (1))), (6, .int (J ((40) * (r))))]) rfl ?_
  exact L9 _ (1) ((40) * (r)) (by omega) (by omega) (fun _ => by rw [show (40 : Int) * r - 40 * r = 0 by omega]; rfl) (fun q => absurd q (by decide)) (Nat.lt_succ_self _)

set_option maxRecDepth 20000 in
theorem c_X8_hands (l : Launch) (D : gD) (ad : gA) (x : gX) (y : gY) (z : gX) (i r : Int) (hi : i32 i) (hr : i32 r) (hRel : Rel z y) : gC l D ad 5 yX8_hands cX8_hands 6 (some .int) [.ref (ad 8 (0)), .int (J (i)), .int (J (r))] x y (pH (.int (J ((sHands z i r).1))) (x) (fun w9 => Rel (sHands z i r).2 w9)) := by
  refine g_met RX8 rfl (by decide +kernel) [(0, .ref (ad 8 (0))), (1, .int (J (i))), (2, .int (J (r)))] rfl (Nat.le_of_ble_eq_true rfl) (fun Θ F hR => ?_)
  have hN := hRel.1.1
  have hRW := hRel.1.2.1
  have hDD := hRel.1.2.2.1
  have hST := hRel.2.1
  have hB := Rel_SB hRel
  have h10 := hN.2.1
  have h15 := hN.2.2.1
  refine g_aload_n F dX8_hands_0 rfl 0 rfl ?_
  refine g_iload_n F dX8_hands_1 rfl 1 rfl ?_
  refine g_callV 1 F (As := [.int (J (i))]) (st := []) (c_X8_isMan l D ad x y z (i) (hST) (hN) (by omega)) (gR_8) rfl mk_X8_191 ki_X8_isMan kc_X8_isMan (by decide +kernel) rfl (by decide) dX8_hands_2 rfl (Nat.le_of_ble_eq_true rfl) (pB_k ?_)
  refine g_ifb_eq 15 F dX8_hands_5 rfl (fun c_1 => ?_) (fun c_1 => ?_)
  · skip
    refine g_iconst F dX8_hands_15 (-1) (by decide) ?_
    exact g_ireturn F hR dX8_hands_16 (pH_z (by unfold sHands; first | (rw [vRf_a (by omega)]; rfl) | (rw [vRf_c (by omega)]; first | (rw [if_pos (by omega)]; done) | (rw [if_neg (by omega)]; exact ha.trans (by rw [show j = 10 by omega])))) (by unfold sHands; first | (rw [vRf_a (by omega)]; exact hRel) | (rw [vRf_c (by omega)]; first | (rw [if_pos (by omega)]; exact hG_21) | (rw [if_neg (by omega)]; exact hRz))) rfl)
  · skip
    refine g_iload_n F dX8_hands_8 rfl 2 rfl ?_
    refine g_callS 1 F (As := [.int (J (r))]) (st := []) (c_X8_isRow l D ad x y (r) (by omega)) rfl mk_X8_80 ki_X8_isRow kc_X8_isRow (by decide +kernel) rfl (by decide) dX8_hands_9 rfl (Nat.le_of_ble_eq_true rfl) (pB_k ?_)
    refine g_ifb_ne 17 F dX8_hands_12 rfl (fun c_2 => ?_) (fun c_2 => ?_)
    · skip
      refine g_aload_n F dX8_hands_17 rfl 0 rfl ?_
      refine g_iload_n F dX8_hands_18 rfl 2 rfl ?_
      refine g_bipush F dX8_hands_19 (30) (by decide) ?_
      refine g_callV 2 F (As := [.int (J (r)), .int (J (30))]) (st := []) (c_X8_noPairs l D ad x y z (r) (30) (by omega) (by omega) (hRel)) (gR_8) rfl mk_X8_268 ki_X8_noPairs kc_X8_noPairs (by decide +kernel) rfl (by decide) dX8_hands_21 rfl (Nat.le_of_ble_eq_true rfl) (pH_k (fun v_21 hG_21 => ?_))
      have hnr := nRf_r z r (30 + 1)
      refine g_istore_n F [(3, .int (J ((nRf z (r) ((30) + 1)).1))), (0, .ref (ad 8 (0))), (1, .int (J (i))), (2, .int (J (r)))] dX8_hands_24 rfl (by decide) rfl ?_
      refine g_iload_n F dX8_hands_25 rfl 0 rfl ?_
      refine g_if_eq 31 F dX8_hands_26 (by omega) rfl (fun c_3 => ?_) (fun c_3 => ?_)
      · skip
        have hq := nRf_0 c_3
        have hRz : Rel z v_21 := by have q := hG_21; rw [hq.2] at q; exact q
        have hp0 := pfU_0 hq.1
        have hp2 : paP z r 31 (z 17 r 0) := hp0.2.2
        have hw := hRW (r) (by omega) (by omega)
        have hw2 : -1 ≤ z 17 (r) 0 ∧ z 17 (r) 0 ≤ 60 := by have := hw.1; split at this <;> omega
        have hr6 : -1 ≤ z 17 r 0 ∧ z 17 r 0 ≤ 40 := by have := hw.1; rw [if_pos (by omega)] at this; exact this
        have hmi := hN.2.2.2 i (by omega) (by omega)
        have hSTz := hRz.2.1
        refine g_iconst F dX8_hands_31 (0) (by decide) ?_
        refine g_istore F [(4, .int (J (0))), (3, .int (J ((nRf z (r) ((30) + 1)).1))), (0, .ref (ad 8 (0))), (1, .int (J (i))), (2, .int (J (r)))] dX8_hands_32 (by decide) rfl ?_
        refine g_iconst F dX8_hands_34 (0) (by decide) ?_
        refine g_istore F [(5, .int (J (0))), (4, .int (J (0))), (3, .int (J ((nRf z (r) ((30) + 1)).1))), (0, .ref (ad 8 (0))), (1, .int (J (i))), (2, .int (J (r)))] dX8_hands_35 (by decide) rfl ?_
        have L37 : ∀ (N : Nat) (a : Int) (j : Int), 0 ≤ j ∧ j ≤ 10 → a = bitsZ (fun j => wkP z i (z 1 i 0) j r) j → (10 - j).toNat < N → gW Θ l D ad 6 37 [(0, .ref (ad 8 (0))), (1, .int (J (i))), (2, .int (J (r))), (4, .int (J (a))), (5, .int (J (j)))] [] x v_21 := by
          intro N
          induction N with
          | zero => intro a j hj ha hFu; omega
          | succ N ih37 =>
            intro a j hj ha hFu
            refine g_iload F dX8_hands_37 4 rfl ?_
            refine g_bipush F dX8_hands_39 (10) (by decide) ?_
            refine g_icmp_ge 80 F dX8_hands_41 (by omega) (by decide) rfl (fun c_4 => ?_) (fun c_4 => ?_)
            · skip
              refine g_iload F dX8_hands_80 3 rfl ?_
              exact g_ireturn F hR dX8_hands_82 (pH_z (by unfold sHands; first | (rw [vRf_a (by omega)]; rfl) | (rw [vRf_c (by omega)]; first | (rw [if_pos (by omega)]; done) | (rw [if_neg (by omega)]; exact ha.trans (by rw [show j = 10 by omega])))) (by unfold sHands; first | (rw [vRf_a (by omega)]; exact hRel) | (rw [vRf_c (by omega)]; first | (rw [if_pos (by omega)]; exact hG_21) | (rw [if_neg (by omega)]; exact hRz))) rfl)
            · skip
              refine g_iload F dX8_hands_44 3 rfl ?_
              refine g_aload_n F dX8_hands_46 rfl 0 rfl ?_
              refine g_iload_n F dX8_hands_47 rfl 1 rfl ?_
              refine g_iload_n F dX8_hands_48 rfl 2 rfl ?_
              refine g_aload_n F dX8_hands_49 rfl 0 rfl ?_
              refine gg_Model_kinds F fk_X8_13 dX8_hands_50 ?_
              refine g_iload_n F dX8_hands_53 rfl 1 rfl ?_
              refine ga_41 F (by omega) dX8_hands_54 ?_
              refine g_topi (b := z 1 i 0) ((hSTz.2.2.2.2.2 _ (by omega) (by omega)).1) ?_
              refine g_iload F dX8_hands_55 4 rfl ?_
              have ra := bitZ_r (P := fun j => wkP z i (z 1 i 0) j r) (n := j) (by omega)
              refine g_callV 4 F (As := [.int (J (i)), .int (J (r)), .int (J (z 1 i 0)), .int (J (j))]) (st := [.int (J (a))]) (c_X8_isTold l D ad x v_21 z (i) (r) (z 1 i 0) (j) (by omega) (by omega) (by omega) (by omega) (hRz) (by omega) (fun q q0 q1 => paP_2 (by omega) hp2 q q0 q1)) (gR_8) rfl mk_X8_283 ki_X8_isTold kc_X8_isTold (by decide +kernel) rfl (by decide) dX8_hands_57 rfl (Nat.le_of_ble_eq_true rfl) (pB_k ?_)
              refine g_ifb_eq 70 F dX8_hands_60 rfl (fun c_5 => ?_) (fun c_5 => ?_)
              · skip
                refine g_iconst F dX8_hands_70 (0) (by decide) ?_
                refine g_ior F dX8_hands_71 (a) (J_or0 _) ?_
                refine g_istore F [(4, .int (J (a))), (0, .ref (ad 8 (0))), (1, .int (J (i))), (2, .int (J (r))), (5, .int (J (j)))] dX8_hands_72 (by decide) rfl ?_
                refine g_iinc F [(5, .int (J (j + 1))), (4, .int (J (a))), (0, .ref (ad 8 (0))), (1, .int (J (i))), (2, .int (J (r)))] 4 rfl dX8_hands_74 (by decide) rfl ?_
                refine g_goto F 37 dX8_hands_77 rfl ?_
                refine g_sub [2, 3, 4, 1, 0] (lv' := [(0, .ref (ad 8 (0))), (1, .int (J (i))), (2, .int (J (r))), (4, .int (J (a))), (5, .int (J (j + 1)))]) rfl ?_
                exact ih37 (a) (j + 1) (by omega) (by rw [ha]; first | exact (bitsZ_y (P := fun j => wkP z i (z 1 i 0) j r) (by omega) (by assumption)).symm | exact (bitsZ_n (P := fun j => wkP z i (z 1 i 0) j r) (by omega) (by assumption)).symm) (by omega)
              · skip
                refine g_iconst F dX8_hands_63 (1) (by decide) ?_
                refine g_iload F dX8_hands_64 4 rfl ?_
                refine g_ishl F dX8_hands_66 (p2 (j)) (J_shl (by omega)) ?_
                refine g_goto F 71 dX8_hands_67 rfl ?_
                refine g_ior F dX8_hands_71 (a + p2 j) (J_or (by rw [ha]; exact ra.1) (by rw [ha]; exact ra.2) (by omega)) ?_
                refine g_istore F [(4, .int (J (a + p2 j))), (0, .ref (ad 8 (0))), (1, .int (J (i))), (2, .int (J (r))), (5, .int (J (j)))] dX8_hands_72 (by decide) rfl ?_
                refine g_iinc F [(5, .int (J (j + 1))), (4, .int (J (a + p2 j))), (0, .ref (ad 8 (0))), (1, .int (J (i))), (2, .int (J (r)))] 4 rfl dX8_hands_74 (by decide) rfl ?_
                refine g_goto F 37 dX8_hands_77 rfl ?_
                refine g_sub [2, 3, 4, 1, 0] (lv' := [(0, .ref (ad 8 (0))), (1, .int (J (i))), (2, .int (J (r))), (4, .int (J (a + p2 j))), (5, .int (J (j + 1)))]) rfl ?_
                exact ih37 (a + p2 j) (j + 1) (by omega) (by rw [ha]; first | exact (bitsZ_y (P := fun j => wkP z i (z 1 i 0) j r) (by omega) (by assumption)).symm | exact (bitsZ_n (P := fun j => wkP z i (z 1 i 0) j r) (by omega) (by assumption)).symm) (by omega)
        refine g_sub [3, 4, 5, 1, 0] (lv' := [(0, .ref (ad 8 (0))), (1, .int (J (i))), (2, .int (J (r))), (4, .int (J (0))), (5, .int (J (0)))]) rfl ?_
        exact L37 _ (0) (0) (by omega) (rfl) (Nat.lt_succ_self _)
      · skip
        refine g_iload_n F dX8_hands_29 rfl 0 rfl ?_
        exact g_ireturn F hR dX8_hands_30 (pH_z (by unfold sHands; first | (rw [vRf_a (by omega)]; rfl) | (rw [vRf_c (by omega)]; first | (rw [if_pos (by omega)]; done) | (rw [if_neg (by omega)]; exact ha.trans (by rw [show j = 10 by omega])))) (by unfold sHands; first | (rw [vRf_a (by omega)]; exact hRel) | (rw [vRf_c (by omega)]; first | (rw [if_pos (by omega)]; exact hG_21) | (rw [if_neg (by omega)]; exact hRz))) rfl)
    · skip
      refine g_iconst F dX8_hands_15 (-1) (by decide) ?_
      exact g_ireturn F hR dX8_hands_16 (pH_z (by unfold sHands; first | (rw [vRf_a (by omega)]; rfl) | (rw [vRf_c (by omega)]; first | (rw [if_pos (by omega)]; done) | (rw [if_neg (by omega)]; exact ha.trans (by rw [show j = 10 by omega])))) (by unfold sHands; first | (rw [vRf_a (by omega)]; exact hRel) | (rw [vRf_c (by omega)]; first | (rw [if_pos (by omega)]; exact hG_21) | (rw [if_neg (by omega)]; exact hRz))) rfl)

set_option maxRecDepth 20000 in
theorem c_X8_kinds (l : Launch) (D : gD) (ad : gA) (x : gX) (y : gY) (z : gX) (i r : Int) (hi : i32 i) (hr : i32 r) (hRel : Rel z y) : gC l D ad 5 yX8_kinds cX8_kinds 6 (some .int) [.ref (ad 8 (0)), .int (J (i)), .int (J (r))] x y (pH (.int (J ((sKinds z i r).1))) (x) (fun w9 => Rel (sKinds z i r).2 w9)) := by
  refine g_met RX8 rfl (by decide +kernel) [(0, .ref (ad 8 (0))), (1, .int (J (i))), (2, .int (J (r)))] rfl (Nat.le_of_ble_eq_true rfl) (fun Θ F hR => ?_)
  have hN := hRel.1.1
  have hRW := hRel.1.2.1
  have hDD := hRel.1.2.2.1
  have hST := hRel.2.1
  have hB := Rel_SB hRel
  have h10 := hN.2.1
  have h15 := hN.2.2.1
  refine g_aload_n F dX8_kinds_0 rfl 0 rfl ?_
  refine g_iload_n F dX8_kinds_1 rfl 1 rfl ?_
  refine g_callV 1 F (As := [.int (J (i))]) (st := []) (c_X8_isMan l D ad x y z (i) (hST) (hN) (by omega)) (gR_8) rfl mk_X8_191 ki_X8_isMan kc_X8_isMan (by decide +kernel) rfl (by decide) dX8_kinds_2 rfl (Nat.le_of_ble_eq_true rfl) (pB_k ?_)
  refine g_ifb_eq 15 F dX8_kinds_5 rfl (fun c_1 => ?_) (fun c_1 => ?_)
  · skip
    refine g_iconst F dX8_kinds_15 (-1) (by decide) ?_
    exact g_ireturn F hR dX8_kinds_16 (pH_z (by unfold sKinds; first | (rw [vRf_a (by omega)]; rfl) | (rw [vRf_c (by omega)]; first | (rw [if_pos (by omega)]; done) | (rw [if_neg (by omega)]; exact ha.trans (by rw [show j = 6 by omega])))) (by unfold sKinds; first | (rw [vRf_a (by omega)]; exact hRel) | (rw [vRf_c (by omega)]; first | (rw [if_pos (by omega)]; exact hG_21) | (rw [if_neg (by omega)]; exact hRz))) rfl)
  · skip
    refine g_iload_n F dX8_kinds_8 rfl 2 rfl ?_
    refine g_callS 1 F (As := [.int (J (r))]) (st := []) (c_X8_isRow l D ad x y (r) (by omega)) rfl mk_X8_80 ki_X8_isRow kc_X8_isRow (by decide +kernel) rfl (by decide) dX8_kinds_9 rfl (Nat.le_of_ble_eq_true rfl) (pB_k ?_)
    refine g_ifb_ne 17 F dX8_kinds_12 rfl (fun c_2 => ?_) (fun c_2 => ?_)
    · skip
      refine g_aload_n F dX8_kinds_17 rfl 0 rfl ?_
      refine g_iload_n F dX8_kinds_18 rfl 2 rfl ?_
      refine g_bipush F dX8_kinds_19 (30) (by decide) ?_
      refine g_callV 2 F (As := [.int (J (r)), .int (J (30))]) (st := []) (c_X8_noPairs l D ad x y z (r) (30) (by omega) (by omega) (hRel)) (gR_8) rfl mk_X8_268 ki_X8_noPairs kc_X8_noPairs (by decide +kernel) rfl (by decide) dX8_kinds_21 rfl (Nat.le_of_ble_eq_true rfl) (pH_k (fun v_21 hG_21 => ?_))
      have hnr := nRf_r z r (30 + 1)
      refine g_istore_n F [(3, .int (J ((nRf z (r) ((30) + 1)).1))), (0, .ref (ad 8 (0))), (1, .int (J (i))), (2, .int (J (r)))] dX8_kinds_24 rfl (by decide) rfl ?_
      refine g_iload_n F dX8_kinds_25 rfl 0 rfl ?_
      refine g_if_eq 31 F dX8_kinds_26 (by omega) rfl (fun c_3 => ?_) (fun c_3 => ?_)
      · skip
        have hq := nRf_0 c_3
        have hRz : Rel z v_21 := by have q := hG_21; rw [hq.2] at q; exact q
        have hp0 := pfU_0 hq.1
        have hp2 : paP z r 31 (z 17 r 0) := hp0.2.2
        have hw := hRW (r) (by omega) (by omega)
        have hw2 : -1 ≤ z 17 (r) 0 ∧ z 17 (r) 0 ≤ 60 := by have := hw.1; split at this <;> omega
        have hr6 : -1 ≤ z 17 r 0 ∧ z 17 r 0 ≤ 40 := by have := hw.1; rw [if_pos (by omega)] at this; exact this
        have hmi := hN.2.2.2 i (by omega) (by omega)
        have hSTz := hRz.2.1
        refine g_iconst F dX8_kinds_31 (0) (by decide) ?_
        refine g_istore F [(4, .int (J (0))), (3, .int (J ((nRf z (r) ((30) + 1)).1))), (0, .ref (ad 8 (0))), (1, .int (J (i))), (2, .int (J (r)))] dX8_kinds_32 (by decide) rfl ?_
        refine g_iconst F dX8_kinds_34 (0) (by decide) ?_
        refine g_istore F [(5, .int (J (0))), (4, .int (J (0))), (3, .int (J ((nRf z (r) ((30) + 1)).1))), (0, .ref (ad 8 (0))), (1, .int (J (i))), (2, .int (J (r)))] dX8_kinds_35 (by decide) rfl ?_
        have L37 : ∀ (N : Nat) (a : Int) (j : Int), 0 ≤ j ∧ j ≤ 6 → a = bitsZ (fun j => wkP z i j (z 4 i 0) r) j → (6 - j).toNat < N → gW Θ l D ad 6 37 [(0, .ref (ad 8 (0))), (1, .int (J (i))), (2, .int (J (r))), (4, .int (J (a))), (5, .int (J (j)))] [] x v_21 := by
          intro N
          induction N with
          | zero => intro a j hj ha hFu; omega
          | succ N ih37 =>
            intro a j hj ha hFu
            refine g_iload F dX8_kinds_37 4 rfl ?_
            refine g_bipush F dX8_kinds_39 (6) (by decide) ?_
            refine g_icmp_ge 80 F dX8_kinds_41 (by omega) (by decide) rfl (fun c_4 => ?_) (fun c_4 => ?_)
            · skip
              refine g_iload F dX8_kinds_80 3 rfl ?_
              exact g_ireturn F hR dX8_kinds_82 (pH_z (by unfold sKinds; first | (rw [vRf_a (by omega)]; rfl) | (rw [vRf_c (by omega)]; first | (rw [if_pos (by omega)]; done) | (rw [if_neg (by omega)]; exact ha.trans (by rw [show j = 6 by omega])))) (by unfold sKinds; first | (rw [vRf_a (by omega)]; exact hRel) | (rw [vRf_c (by omega)]; first | (rw [if_pos (by omega)]; exact hG_21) | (rw [if_neg (by omega)]; exact hRz))) rfl)
            · skip
              refine g_iload F dX8_kinds_44 3 rfl ?_
              refine g_aload_n F dX8_kinds_46 rfl 0 rfl ?_
              refine g_iload_n F dX8_kinds_47 rfl 1 rfl ?_
              refine g_iload_n F dX8_kinds_48 rfl 2 rfl ?_
              refine g_iload F dX8_kinds_49 4 rfl ?_
              refine g_aload_n F dX8_kinds_51 rfl 0 rfl ?_
              refine gg_Model_hands F fk_X8_22 dX8_kinds_52 ?_
              refine g_iload_n F dX8_kinds_55 rfl 1 rfl ?_
              refine ga_44 F (by omega) dX8_kinds_56 ?_
              refine g_topi (b := z 4 i 0) ((hSTz.2.2.2.2.2 _ (by omega) (by omega)).2.2.2) ?_
              have ra := bitZ_r (P := fun j => wkP z i j (z 4 i 0) r) (n := j) (by omega)
              refine g_callV 4 F (As := [.int (J (i)), .int (J (r)), .int (J (j)), .int (J (z 4 i 0))]) (st := [.int (J (a))]) (c_X8_isTold l D ad x v_21 z (i) (r) (j) (z 4 i 0) (by omega) (by omega) (by omega) (by omega) (hRz) (by omega) (fun q q0 q1 => paP_2 (by omega) hp2 q q0 q1)) (gR_8) rfl mk_X8_283 ki_X8_isTold kc_X8_isTold (by decide +kernel) rfl (by decide) dX8_kinds_57 rfl (Nat.le_of_ble_eq_true rfl) (pB_k ?_)
              refine g_ifb_eq 70 F dX8_kinds_60 rfl (fun c_5 => ?_) (fun c_5 => ?_)
              · skip
                refine g_iconst F dX8_kinds_70 (0) (by decide) ?_
                refine g_ior F dX8_kinds_71 (a) (J_or0 _) ?_
                refine g_istore F [(4, .int (J (a))), (0, .ref (ad 8 (0))), (1, .int (J (i))), (2, .int (J (r))), (5, .int (J (j)))] dX8_kinds_72 (by decide) rfl ?_
                refine g_iinc F [(5, .int (J (j + 1))), (4, .int (J (a))), (0, .ref (ad 8 (0))), (1, .int (J (i))), (2, .int (J (r)))] 4 rfl dX8_kinds_74 (by decide) rfl ?_
                refine g_goto F 37 dX8_kinds_77 rfl ?_
                refine g_sub [2, 3, 4, 1, 0] (lv' := [(0, .ref (ad 8 (0))), (1, .int (J (i))), (2, .int (J (r))), (4, .int (J (a))), (5, .int (J (j + 1)))]) rfl ?_
                exact ih37 (a) (j + 1) (by omega) (by rw [ha]; first | exact (bitsZ_y (P := fun j => wkP z i j (z 4 i 0) r) (by omega) (by assumption)).symm | exact (bitsZ_n (P := fun j => wkP z i j (z 4 i 0) r) (by omega) (by assumption)).symm) (by omega)
              · skip
                refine g_iconst F dX8_kinds_63 (1) (by decide) ?_
                refine g_iload F dX8_kinds_64 4 rfl ?_
                refine g_ishl F dX8_kinds_66 (p2 (j)) (J_shl (by omega)) ?_
                refine g_goto F 71 dX8_kinds_67 rfl ?_
                refine g_ior F dX8_kinds_71 (a + p2 j) (J_or (by rw [ha]; exact ra.1) (by rw [ha]; exact ra.2) (by omega)) ?_
                refine g_istore F [(4, .int (J (a + p2 j))), (0, .ref (ad 8 (0))), (1, .int (J (i))), (2, .int (J (r))), (5, .int (J (j)))] dX8_kinds_72 (by decide) rfl ?_
                refine g_iinc F [(5, .int (J (j + 1))), (4, .int (J (a + p2 j))), (0, .ref (ad 8 (0))), (1, .int (J (i))), (2, .int (J (r)))] 4 rfl dX8_kinds_74 (by decide) rfl ?_
                refine g_goto F 37 dX8_kinds_77 rfl ?_
                refine g_sub [2, 3, 4, 1, 0] (lv' := [(0, .ref (ad 8 (0))), (1, .int (J (i))), (2, .int (J (r))), (4, .int (J (a + p2 j))), (5, .int (J (j + 1)))]) rfl ?_
                exact ih37 (a + p2 j) (j + 1) (by omega) (by rw [ha]; first | exact (bitsZ_y (P := fun j => wkP z i j (z 4 i 0) r) (by omega) (by assumption)).symm | exact (bitsZ_n (P := fun j => wkP z i j (z 4 i 0) r) (by omega) (by assumption)).symm) (by omega)
        refine g_sub [3, 4, 5, 1, 0] (lv' := [(0, .ref (ad 8 (0))), (1, .int (J (i))), (2, .int (J (r))), (4, .int (J (0))), (5, .int (J (0)))]) rfl ?_
        exact L37 _ (0) (0) (by omega) (rfl) (Nat.lt_succ_self _)
      · skip
        refine g_iload_n F dX8_kinds_29 rfl 0 rfl ?_
        exact g_ireturn F hR dX8_kinds_30 (pH_z (by unfold sKinds; first | (rw [vRf_a (by omega)]; rfl) | (rw [vRf_c (by omega)]; first | (rw [if_pos (by omega)]; done) | (rw [if_neg (by omega)]; exact ha.trans (by rw [show j = 6 by omega])))) (by unfold sKinds; first | (rw [vRf_a (by omega)]; exact hRel) | (rw [vRf_c (by omega)]; first | (rw [if_pos (by omega)]; exact hG_21) | (rw [if_neg (by omega)]; exact hRz))) rfl)
    · skip
      refine g_iconst F dX8_kinds_15 (-1) (by decide) ?_
      exact g_ireturn F hR dX8_kinds_16 (pH_z (by unfold sKinds; first | (rw [vRf_a (by omega)]; rfl) | (rw [vRf_c (by omega)]; first | (rw [if_pos (by omega)]; done) | (rw [if_neg (by omega)]; exact ha.trans (by rw [show j = 6 by omega])))) (by unfold sKinds; first | (rw [vRf_a (by omega)]; exact hRel) | (rw [vRf_c (by omega)]; first | (rw [if_pos (by omega)]; exact hG_21) | (rw [if_neg (by omega)]; exact hRz))) rfl)

set_option maxRecDepth 20000 in
theorem c_X8_foulBy (l : Launch) (D : gD) (ad : gA) (x : gX) (y : gY) (z : gX) (h : Int) (hST : ST z y) (hN : NOK z) (hB : SB z y 0) (hh : 0 ≤ h ∧ h ≤ 100) : gC l D ad 6 yX8_foulBy cX8_foulBy 4 (some .int) [.ref (ad 8 (0)), .int (J (h))] x y (pI (foU z h) (x) (y)) := by
  refine g_met RX8 rfl (by decide +kernel) [(0, .ref (ad 8 (0))), (1, .int (J (h)))] rfl (Nat.le_of_ble_eq_true rfl) (fun Θ F hR => ?_)
  have h10 := hN.2.1
  refine g_iconst F dX8_foulBy_0 (0) (by decide) ?_
  refine g_istore_n F [(2, .int (J (0))), (0, .ref (ad 8 (0))), (1, .int (J (h)))] dX8_foulBy_1 rfl (by decide) rfl ?_
  refine g_iconst F dX8_foulBy_2 (0) (by decide) ?_
  refine g_istore_n F [(3, .int (J (0))), (2, .int (J (0))), (0, .ref (ad 8 (0))), (1, .int (J (h)))] dX8_foulBy_3 rfl (by decide) rfl ?_
  have L4 : ∀ (N : Nat) (a : Int) (j : Int), 0 ≤ j ∧ j ≤ z 10 0 0 → a = sumZ (fun i => if z 6 i 0 = -9 ∧ vU z i h = 0 then 1 else 0) j → (z 10 0 0 - j).toNat < N → gW Θ l D ad 4 4 [(0, .ref (ad 8 (0))), (1, .int (J (h))), (2, .int (J (a))), (3, .int (J (j)))] [] x y := by
    intro N
    induction N with
    | zero => intro a j hj ha hFu; omega
    | succ N ih4 =>
      intro a j hj ha hFu
      refine g_iload_n F dX8_foulBy_4 rfl 3 rfl ?_
      refine g_aload_n F dX8_foulBy_5 rfl 0 rfl ?_
      refine gg_Model_men F fk_X8_157 dX8_foulBy_6 ?_
      refine g_topi (b := z 10 0 0) (hST.2.2.2.2.1) ?_
      refine g_icmp_ge 44 F dX8_foulBy_9 (by omega) (by omega) rfl (fun c_1 => ?_) (fun c_1 => ?_)
      · skip
        refine g_iload_n F dX8_foulBy_44 rfl 2 rfl ?_
        exact g_ireturn F hR dX8_foulBy_45 (pI_i (by exact ha.trans (by rw [show j = z 10 0 0 by omega])) rfl rfl)
      · skip
        have hv := vU_r z j h
        refine g_iload_n F dX8_foulBy_12 rfl 2 rfl ?_
        refine g_aload_n F dX8_foulBy_13 rfl 0 rfl ?_
        refine g_iload_n F dX8_foulBy_14 rfl 3 rfl ?_
        refine g_callV 1 F (As := [.int (J (j))]) (st := [.int (J (a))]) (c_X8_isDone l D ad x y z (j) (hST) (hN) (hB) (by omega)) (gR_8) rfl mk_X8_219 ki_X8_isDone kc_X8_isDone (by decide +kernel) rfl (by decide) dX8_foulBy_15 rfl (Nat.le_of_ble_eq_true rfl) (pB_k ?_)
        refine g_ifb_ne 35 F dX8_foulBy_18 rfl (fun c_2 => ?_) (fun c_2 => ?_)
        · skip
          refine g_iconst F dX8_foulBy_35 (0) (by decide) ?_
          refine g_iadd F dX8_foulBy_36 ?_
          refine g_istore_n F [(2, .int (J ((a) + (0)))), (0, .ref (ad 8 (0))), (1, .int (J (h))), (3, .int (J (j)))] dX8_foulBy_37 rfl (by decide) rfl ?_
          refine g_iinc F [(3, .int (J (j + 1))), (2, .int (J ((a) + (0)))), (0, .ref (ad 8 (0))), (1, .int (J (h)))] 3 rfl dX8_foulBy_38 (by decide) rfl ?_
          refine g_goto F 4 dX8_foulBy_41 rfl ?_
          refine g_sub [2, 3, 1, 0] (lv' := [(0, .ref (ad 8 (0))), (1, .int (J (h))), (2, .int (J ((a) + (0)))), (3, .int (J (j + 1)))]) rfl ?_
          exact ih4 ((a) + (0)) (j + 1) (by omega) (by rw [sumZ_s _ (by omega), ← ha]; (repeat' split) <;> first | omega | contradiction) (by omega)
        · skip
          refine g_aload_n F dX8_foulBy_21 rfl 0 rfl ?_
          refine g_iconst F dX8_foulBy_22 (0) (by decide) ?_
          refine g_iload_n F dX8_foulBy_23 rfl 3 rfl ?_
          refine g_iload_n F dX8_foulBy_24 rfl 1 rfl ?_
          refine g_callV 3 F (As := [.int (J (0)), .int (J (j)), .int (J (h))]) (st := [.int (J (a))]) (c_X8_tellsAt l D ad x y z (0) (j) (h) (hST) (hN) (hB) (by omega) (by omega) (by omega)) (gR_8) rfl mk_X8_222 ki_X8_tellsAt kc_X8_tellsAt (by decide +kernel) rfl (by decide) dX8_foulBy_25 rfl (Nat.le_of_ble_eq_true rfl) (pI_k ?_)
          refine g_if_ne 35 F dX8_foulBy_28 (by omega) rfl (fun c_3 => ?_) (fun c_3 => ?_)
          · skip
            refine g_iconst F dX8_foulBy_35 (0) (by decide) ?_
            refine g_iadd F dX8_foulBy_36 ?_
            refine g_istore_n F [(2, .int (J ((a) + (0)))), (0, .ref (ad 8 (0))), (1, .int (J (h))), (3, .int (J (j)))] dX8_foulBy_37 rfl (by decide) rfl ?_
            refine g_iinc F [(3, .int (J (j + 1))), (2, .int (J ((a) + (0)))), (0, .ref (ad 8 (0))), (1, .int (J (h)))] 3 rfl dX8_foulBy_38 (by decide) rfl ?_
            refine g_goto F 4 dX8_foulBy_41 rfl ?_
            refine g_sub [2, 3, 1, 0] (lv' := [(0, .ref (ad 8 (0))), (1, .int (J (h))), (2, .int (J ((a) + (0)))), (3, .int (J (j + 1)))]) rfl ?_
            exact ih4 ((a) + (0)) (j + 1) (by omega) (by rw [sumZ_s _ (by omega), ← ha]; (repeat' split) <;> first | omega | contradiction) (by omega)
          · skip
            refine g_iconst F dX8_foulBy_31 (1) (by decide) ?_
            refine g_goto F 36 dX8_foulBy_32 rfl ?_
            refine g_iadd F dX8_foulBy_36 ?_
            refine g_istore_n F [(2, .int (J ((a) + (1)))), (0, .ref (ad 8 (0))), (1, .int (J (h))), (3, .int (J (j)))] dX8_foulBy_37 rfl (by decide) rfl ?_
            refine g_iinc F [(3, .int (J (j + 1))), (2, .int (J ((a) + (1)))), (0, .ref (ad 8 (0))), (1, .int (J (h)))] 3 rfl dX8_foulBy_38 (by decide) rfl ?_
            refine g_goto F 4 dX8_foulBy_41 rfl ?_
            refine g_sub [2, 3, 1, 0] (lv' := [(0, .ref (ad 8 (0))), (1, .int (J (h))), (2, .int (J ((a) + (1)))), (3, .int (J (j + 1)))]) rfl ?_
            exact ih4 ((a) + (1)) (j + 1) (by omega) (by rw [sumZ_s _ (by omega), ← ha]; (repeat' split) <;> first | omega | contradiction) (by omega)
  refine g_sub [2, 3, 1, 0] (lv' := [(0, .ref (ad 8 (0))), (1, .int (J (h))), (2, .int (J (0))), (3, .int (J (0)))]) rfl ?_
  exact L4 _ (0) (0) (by omega) (rfl) (Nat.lt_succ_self _)

set_option maxRecDepth 20000 in
theorem c_X8_isHere (l : Launch) (D : gD) (ad : gA) (x : gX) (y : gY) (z : gX) (i : Int) (hST : ST z y) (hN : NOK z) (hB : SB z y 0) (hi : 0 ≤ i ∧ i < z 10 0 0) : gC l D ad 3 yX8_isHere cX8_isHere 2 (some .boolean) [.ref (ad 8 (0)), .int (J (i))] x y (pB (hrP z i) (x) (y)) := by
  refine g_met RX8 rfl (by decide +kernel) [(0, .ref (ad 8 (0))), (1, .int (J (i)))] rfl (Nat.le_of_ble_eq_true rfl) (fun Θ F hR => ?_)
  have hm := hN.2.2.2 i hi.1 hi.2
  have h10 := hN.2.1
  refine g_aload_n F dX8_isHere_0 rfl 0 rfl ?_
  refine g_iload_n F dX8_isHere_1 rfl 1 rfl ?_
  refine g_callV 1 F (As := [.int (J (i))]) (st := []) (c_X8_isDone l D ad x y z (i) (hST) (hN) (hB) (by omega)) (gR_8) rfl mk_X8_219 ki_X8_isDone kc_X8_isDone (by decide +kernel) rfl (by decide) dX8_isHere_2 rfl (Nat.le_of_ble_eq_true rfl) (pB_k ?_)
  refine g_ifb_ne 26 F dX8_isHere_5 rfl (fun c_1 => ?_) (fun c_1 => ?_)
  · skip
    refine g_iconst F dX8_isHere_26 (0) (by decide) ?_
    exact g_zreturn F hR dX8_isHere_27 (by omega) (pB_i (by split <;> first | omega | contradiction) rfl rfl)
  · skip
    refine g_aload_n F dX8_isHere_8 rfl 0 rfl ?_
    refine g_iload_n F dX8_isHere_9 rfl 1 rfl ?_
    refine g_aload_n F dX8_isHere_10 rfl 0 rfl ?_
    refine gg_Model_row F fk_X8_7 dX8_isHere_11 ?_
    refine g_iconst F dX8_isHere_14 (1) (by decide) ?_
    refine ga_40 F (by decide) dX8_isHere_15 ?_
    refine g_topi (b := z 15 0 0) (SB_00 hB) ?_
    refine g_callV 2 F (As := [.int (J (i)), .int (J (z 15 0 0))]) (st := []) (c_X8_doesCome l D ad x y z (i) (z 15 0 0) (hST) (hN) (by omega) (by omega)) (gR_8) rfl mk_X8_185 ki_X8_doesCome kc_X8_doesCome (by decide +kernel) rfl (by decide) dX8_isHere_16 rfl (Nat.le_of_ble_eq_true rfl) (pB_k ?_)
    refine g_ifb_eq 26 F dX8_isHere_19 rfl (fun c_2 => ?_) (fun c_2 => ?_)
    · skip
      refine g_iconst F dX8_isHere_26 (0) (by decide) ?_
      exact g_zreturn F hR dX8_isHere_27 (by omega) (pB_i (by split <;> first | omega | contradiction) rfl rfl)
    · skip
      refine g_iconst F dX8_isHere_22 (1) (by decide) ?_
      refine g_goto F 27 dX8_isHere_23 rfl ?_
      exact g_zreturn F hR dX8_isHere_27 (by omega) (pB_i (by split <;> first | omega | contradiction) rfl rfl)

set_option maxRecDepth 20000 in
theorem c_X8_cleanWays (l : Launch) (D : gD) (ad : gA) (x : gX) (y : gY) (z : gX) (i p : Int) (hST : ST z y) (hN : NOK z) (hB : SB z y 0) (hi : 0 ≤ i ∧ i < z 10 0 0) (hp : 0 ≤ p ∧ p ≤ 12) : gC l D ad 4 yX8_cleanWays cX8_cleanWays 4 (some .int) [.ref (ad 8 (0)), .int (J (i)), .int (J (p))] x y (pI (ccU z i p) (x) (y)) := by
  refine g_met RX8 rfl (by decide +kernel) [(0, .ref (ad 8 (0))), (1, .int (J (i))), (2, .int (J (p)))] rfl (Nat.le_of_ble_eq_true rfl) (fun Θ F hR => ?_)
  have hm := hN.2.2.2 i hi.1 hi.2
  have h10 := hN.2.1
  have hbu := bU_r hN.1 hm (h := z 15 0 0) (by omega)
  refine g_aload_n F dX8_cleanWays_0 rfl 0 rfl ?_
  refine g_iload_n F dX8_cleanWays_1 rfl 1 rfl ?_
  refine g_aload_n F dX8_cleanWays_2 rfl 0 rfl ?_
  refine gg_Model_row F fk_X8_7 dX8_cleanWays_3 ?_
  refine g_iconst F dX8_cleanWays_6 (1) (by decide) ?_
  refine ga_40 F (by decide) dX8_cleanWays_7 ?_
  refine g_topi (b := z 15 0 0) (SB_00 hB) ?_
  refine g_callV 2 F (As := [.int (J (i)), .int (J (z 15 0 0))]) (st := []) (c_X8_burns l D ad x y z (i) (z 15 0 0) (hST) (hN) (by omega) (by omega)) (gR_8) rfl mk_X8_179 ki_X8_burns kc_X8_burns (by decide +kernel) rfl (by decide) dX8_cleanWays_8 rfl (Nat.le_of_ble_eq_true rfl) (pI_k ?_)
  refine g_istore_n F [(3, .int (J (bU z (i) (z 15 0 0)))), (0, .ref (ad 8 (0))), (1, .int (J (i))), (2, .int (J (p)))] dX8_cleanWays_11 rfl (by decide) rfl ?_
  refine g_iload_n F dX8_cleanWays_12 rfl 0 rfl ?_
  refine g_iconst F dX8_cleanWays_13 (3) (by decide) ?_
  refine g_iadd F dX8_cleanWays_14 ?_
  refine g_aload_n F dX8_cleanWays_15 rfl 1 rfl ?_
  refine g_iconst F dX8_cleanWays_16 (0) (by decide) ?_
  refine g_iload_n F dX8_cleanWays_17 rfl 2 rfl ?_
  refine g_callV 2 F (As := [.int (J (0)), .int (J (i))]) (st := [.int (J ((bU z (i) (z 15 0 0)) + (3)))]) (c_X8_bearable l D ad x y z (0) (i) (hST) (hN) (hB) (by omega) (by omega)) (gR_8) rfl mk_X8_182 ki_X8_bearable kc_X8_bearable (by decide +kernel) rfl (by decide) dX8_cleanWays_18 rfl (Nat.le_of_ble_eq_true rfl) (pI_k ?_)
  refine g_icmp_gt 28 F dX8_cleanWays_21 (by omega) (by omega) rfl (fun c_1 => ?_) (fun c_1 => ?_)
  · skip
    refine g_iconst F dX8_cleanWays_28 (0) (by decide) ?_
    refine g_iload_n F dX8_cleanWays_29 rfl 0 rfl ?_
    refine g_aload_n F dX8_cleanWays_30 rfl 1 rfl ?_
    refine g_iconst F dX8_cleanWays_31 (0) (by decide) ?_
    refine g_iload_n F dX8_cleanWays_32 rfl 2 rfl ?_
    refine g_callV 2 F (As := [.int (J (0)), .int (J (i))]) (st := [.int (J (bU z (i) (z 15 0 0))), .int (J (0))]) (c_X8_bearable l D ad x y z (0) (i) (hST) (hN) (hB) (by omega) (by omega)) (gR_8) rfl mk_X8_182 ki_X8_bearable kc_X8_bearable (by decide +kernel) rfl (by decide) dX8_cleanWays_33 rfl (Nat.le_of_ble_eq_true rfl) (pI_k ?_)
    refine g_icmp_gt 46 F dX8_cleanWays_36 (by omega) (by omega) rfl (fun c_2 => ?_) (fun c_2 => ?_)
    · skip
      refine g_iconst F dX8_cleanWays_46 (0) (by decide) ?_
      refine g_iadd F dX8_cleanWays_47 ?_
      exact g_ireturn F hR dX8_cleanWays_48 (pI_i (by rw [cc_eq]; first | (rw [if_pos (by omega), if_pos (by omega)]; done) | (rw [if_pos (by omega), if_neg (by omega)]; done) | (rw [if_neg (by omega), if_pos (by omega)]; done) | (rw [if_neg (by omega), if_neg (by omega)]; done)) rfl rfl)
    · skip
      refine g_bipush F dX8_cleanWays_39 (12) (by decide) ?_
      refine g_iload_n F dX8_cleanWays_41 rfl 3 rfl ?_
      refine g_isub F dX8_cleanWays_42 ?_
      refine g_goto F 47 dX8_cleanWays_43 rfl ?_
      refine g_iadd F dX8_cleanWays_47 ?_
      exact g_ireturn F hR dX8_cleanWays_48 (pI_i (by rw [cc_eq]; first | (rw [if_pos (by omega), if_pos (by omega)]; done) | (rw [if_pos (by omega), if_neg (by omega)]; done) | (rw [if_neg (by omega), if_pos (by omega)]; done) | (rw [if_neg (by omega), if_neg (by omega)]; done)) rfl rfl)
  · skip
    refine g_iload_n F dX8_cleanWays_24 rfl 3 rfl ?_
    refine g_goto F 29 dX8_cleanWays_25 rfl ?_
    refine g_iload_n F dX8_cleanWays_29 rfl 0 rfl ?_
    refine g_aload_n F dX8_cleanWays_30 rfl 1 rfl ?_
    refine g_iconst F dX8_cleanWays_31 (0) (by decide) ?_
    refine g_iload_n F dX8_cleanWays_32 rfl 2 rfl ?_
    refine g_callV 2 F (As := [.int (J (0)), .int (J (i))]) (st := [.int (J (bU z (i) (z 15 0 0))), .int (J (p))]) (c_X8_bearable l D ad x y z (0) (i) (hST) (hN) (hB) (by omega) (by omega)) (gR_8) rfl mk_X8_182 ki_X8_bearable kc_X8_bearable (by decide +kernel) rfl (by decide) dX8_cleanWays_33 rfl (Nat.le_of_ble_eq_true rfl) (pI_k ?_)
    refine g_icmp_gt 46 F dX8_cleanWays_36 (by omega) (by omega) rfl (fun c_3 => ?_) (fun c_3 => ?_)
    · skip
      refine g_iconst F dX8_cleanWays_46 (0) (by decide) ?_
      refine g_iadd F dX8_cleanWays_47 ?_
      exact g_ireturn F hR dX8_cleanWays_48 (pI_i (by rw [cc_eq]; first | (rw [if_pos (by omega), if_pos (by omega)]; done) | (rw [if_pos (by omega), if_neg (by omega)]; done) | (rw [if_neg (by omega), if_pos (by omega)]; done) | (rw [if_neg (by omega), if_neg (by omega)]; done)) rfl rfl)
    · skip
      refine g_bipush F dX8_cleanWays_39 (12) (by decide) ?_
      refine g_iload_n F dX8_cleanWays_41 rfl 3 rfl ?_
      refine g_isub F dX8_cleanWays_42 ?_
      refine g_goto F 47 dX8_cleanWays_43 rfl ?_
      refine g_iadd F dX8_cleanWays_47 ?_
      exact g_ireturn F hR dX8_cleanWays_48 (pI_i (by rw [cc_eq]; first | (rw [if_pos (by omega), if_pos (by omega)]; done) | (rw [if_pos (by omega), if_neg (by omega)]; done) | (rw [if_neg (by omega), if_pos (by omega)]; done) | (rw [if_neg (by omega), if_neg (by omega)]; done)) rfl rfl)

set_option maxRecDepth 20000 in
theorem c_X8_odds (l : Launch) (D : gD) (ad : gA) (x : gX) (y : gY) (z : gX) (p : Int) (hp : i32 p) (hRel : Rel z y) : gC l D ad 5 yX8_odds cX8_odds 7 (some .int) [.ref (ad 8 (0)), .int (J (p))] x y (pH (.int (J ((sOdds z p).1))) (x) (fun w9 => Rel (sOdds z p).2 w9)) := by
  refine g_met RX8 rfl (by decide +kernel) [(0, .ref (ad 8 (0))), (1, .int (J (p)))] rfl (Nat.le_of_ble_eq_true rfl) (fun Θ F hR => ?_)
  have hN := hRel.1.1
  have hRW := hRel.1.2.1
  have hDD := hRel.1.2.2.1
  have hST := hRel.2.1
  have hB := Rel_SB hRel
  have h10 := hN.2.1
  have h15 := hN.2.2.1
  refine g_iload_n F dX8_odds_0 rfl 1 rfl ?_
  refine g_i2l F dX8_odds_1 (by omega) ?_
  refine g_lconst F dX8_odds_2 0 (by decide) ?_
  refine g_ldc2 F ck_X8_292 dX8_odds_3 (12) (by decide) ?_
  refine g_callS 3 F (As := [.long (Lg (p)), .long (Lg (0)), .long (Lg (12))]) (st := []) (c_X8_in l D ad x y (p) (0) (12) (by omega) (by omega) (by omega)) rfl mk_X8_74 ki_X8_in kc_X8_in (by decide +kernel) rfl (by decide) dX8_odds_6 rfl (Nat.le_of_ble_eq_true rfl) (pB_k ?_)
  refine g_ifb_ne 14 F dX8_odds_9 rfl (fun c_1 => ?_) (fun c_1 => ?_)
  · skip
    refine g_aload_n F dX8_odds_14 rfl 0 rfl ?_
    refine gg_Model_men F fk_X8_157 dX8_odds_15 ?_
    refine g_topi (b := z 10 0 0) (hST.2.2.2.2.1) ?_
    refine g_if_ne 24 F dX8_odds_18 (by omega) rfl (fun c_2 => ?_) (fun c_2 => ?_)
    · skip
      refine g_lconst F dX8_odds_24 1 (by decide) ?_
      refine g_lstore_n F [(2, .long (Lg (1))), (0, .ref (ad 8 (0))), (1, .int (J (p)))] dX8_odds_25 rfl (by decide) rfl ?_
      refine g_lconst F dX8_odds_26 1 (by decide) ?_
      refine g_lstore F [(4, .long (Lg (1))), (2, .long (Lg (1))), (0, .ref (ad 8 (0))), (1, .int (J (p)))] dX8_odds_27 (by decide) rfl ?_
      refine g_iconst F dX8_odds_29 (0) (by decide) ?_
      refine g_istore F [(6, .int (J (0))), (4, .long (Lg (1))), (2, .long (Lg (1))), (0, .ref (ad 8 (0))), (1, .int (J (p)))] dX8_odds_30 (by decide) rfl ?_
      have L32 : ∀ (N : Nat) (a : Int) (b : Int) (j : Int), 0 ≤ j ∧ j ≤ z 10 0 0 → 1 ≤ b → a = pdZ (fun i => if mbU z i then ccU z i p else 1) j → b = pdZ (fun i => if mbU z i then 12 else 1) j → (z 10 0 0 - j).toNat < N → gW Θ l D ad 7 32 [(0, .ref (ad 8 (0))), (1, .int (J (p))), (2, .long (Lg (a))), (4, .long (Lg (b))), (6, .int (J (j)))] [] x y := by
        intro N
        induction N with
        | zero => intro a b j hj hb1 ha hb hFu; omega
        | succ N ih32 =>
          intro a b j hj hb1 ha hb hFu
          refine g_iload F dX8_odds_32 4 rfl ?_
          refine g_aload_n F dX8_odds_34 rfl 0 rfl ?_
          refine gg_Model_men F fk_X8_157 dX8_odds_35 ?_
          refine g_topi (b := z 10 0 0) (hST.2.2.2.2.1) ?_
          refine g_icmp_ge 85 F dX8_odds_38 (by omega) (by omega) rfl (fun c_3 => ?_) (fun c_3 => ?_)
          · skip
            have ra := pdZ_r (f := fun i => if mbU z i then ccU z i p else 1) (n := j) (by omega) (fun i => by have := ccU_r (x := z) (i := i) (p := p) (by omega); show 0 ≤ (if mbU z i then ccU z i p else 1) ∧ (if mbU z i then ccU z i p else 1) ≤ 12; split <;> omega)
            have rb := pdZ_r (f := fun i => if mbU z i then 12 else 1) (n := j) (by omega) (fun i => by show 0 ≤ (if mbU z i then (12 : Int) else 1) ∧ (if mbU z i then (12 : Int) else 1) ≤ 12; split <;> omega)
            refine g_aload_n F dX8_odds_85 rfl 0 rfl ?_
            refine g_lload_n F dX8_odds_86 rfl 2 rfl ?_
            refine g_lload F dX8_odds_87 3 rfl ?_
            refine g_callV 2 F (As := [.long (Lg (a)), .long (Lg (b))]) (st := []) (c_X8_tellParts l D ad x y (a) (b) (by rw [ha]; omega) (by rw [hb] at hb1 ⊢; omega)) (gR_8) rfl mk_X8_246 ki_X8_tellParts kc_X8_tellParts (by decide +kernel) rfl (by decide) dX8_odds_89 rfl (Nat.le_of_ble_eq_true rfl) (pI_k ?_)
            exact g_ireturn F hR dX8_odds_92 (pH_z (by unfold sOdds; first | (rw [hRf_a (by omega)]; rfl) | (rw [hRf_b (by omega) (by omega)]; rfl) | (rw [hRf_c (by omega) (by omega)]; rfl)) (by unfold sOdds; first | (rw [hRf_a (by omega)]; exact hRel) | (rw [hRf_b (by omega) (by omega)]; exact hRel) | (rw [hRf_c (by omega) (by omega)]; show Rel (tfM z (ouU z p) (olU z)) _; rw [show ouU z p = a from (ha.trans (by rw [show j = z 10 0 0 by omega])).symm, show olU z = b from (hb.trans (by rw [show j = z 10 0 0 by omega])).symm]; exact Rel_fr1 hRel (by omega))) rfl)
          · skip
            have hm := hN.2.2.2 j (by omega) (by omega)
            refine g_aload_n F dX8_odds_41 rfl 0 rfl ?_
            refine g_iload F dX8_odds_42 4 rfl ?_
            refine g_callV 1 F (As := [.int (J (j))]) (st := []) (c_X8_isHere l D ad x y z (j) (hST) (hN) (hB) (by omega)) (gR_8) rfl mk_X8_294 ki_X8_isHere kc_X8_isHere (by decide +kernel) rfl (by decide) dX8_odds_44 rfl (Nat.le_of_ble_eq_true rfl) (pB_k ?_)
            refine g_ifb_eq 79 F dX8_odds_47 rfl (fun c_4 => ?_) (fun c_4 => ?_)
            · skip
              have hmb : ¬ mbU z j := fun q => c_4 ⟨q.1, q.2.2⟩
              refine g_iinc F [(6, .int (J (j + 1))), (0, .ref (ad 8 (0))), (1, .int (J (p))), (2, .long (Lg (a))), (4, .long (Lg (b)))] 4 rfl dX8_odds_79 (by decide) rfl ?_
              refine g_goto F 32 dX8_odds_82 rfl ?_
              refine g_sub [1, 2, 3, 4, 0] (lv' := [(0, .ref (ad 8 (0))), (1, .int (J (p))), (2, .long (Lg (a))), (4, .long (Lg (b))), (6, .int (J (j + 1)))]) rfl ?_
              exact ih32 (a) (b) (j + 1) (by omega) (by omega) (by rw [pdZ_s _ (by omega), ← ha]; first | (rw [if_pos hmb]; done) | (rw [if_neg hmb, Int.mul_one]; done)) (by rw [pdZ_s _ (by omega), ← hb]; first | (rw [if_pos hmb]; done) | (rw [if_neg hmb, Int.mul_one]; done)) (by omega)
            · skip
              refine g_aload_n F dX8_odds_50 rfl 0 rfl ?_
              refine gg_Model_guilts F fk_X8_16 dX8_odds_51 ?_
              refine g_iload F dX8_odds_54 4 rfl ?_
              refine ga_42 F (by omega) dX8_odds_56 ?_
              refine g_topi (b := z 2 (j) 0) ((hST.2.2.2.2.2 _ (by omega) (by omega)).2.1) ?_
              refine g_if_ne 79 F dX8_odds_57 (by omega) rfl (fun c_5 => ?_) (fun c_5 => ?_)
              · skip
                have hmb : ¬ mbU z j := fun q => by omega
                refine g_iinc F [(6, .int (J (j + 1))), (0, .ref (ad 8 (0))), (1, .int (J (p))), (2, .long (Lg (a))), (4, .long (Lg (b)))] 4 rfl dX8_odds_79 (by decide) rfl ?_
                refine g_goto F 32 dX8_odds_82 rfl ?_
                refine g_sub [1, 2, 3, 4, 0] (lv' := [(0, .ref (ad 8 (0))), (1, .int (J (p))), (2, .long (Lg (a))), (4, .long (Lg (b))), (6, .int (J (j + 1)))]) rfl ?_
                exact ih32 (a) (b) (j + 1) (by omega) (by omega) (by rw [pdZ_s _ (by omega), ← ha]; first | (rw [if_pos hmb]; done) | (rw [if_neg hmb, Int.mul_one]; done)) (by rw [pdZ_s _ (by omega), ← hb]; first | (rw [if_pos hmb]; done) | (rw [if_neg hmb, Int.mul_one]; done)) (by omega)
              · skip
                have hh : hrP z j := by assumption
                have hmb : mbU z j := ⟨hh.1, by omega, hh.2⟩
                refine g_lload_n F dX8_odds_60 rfl 2 rfl ?_
                refine g_aload_n F dX8_odds_61 rfl 0 rfl ?_
                refine g_iload F dX8_odds_62 4 rfl ?_
                refine g_iload_n F dX8_odds_64 rfl 1 rfl ?_
                refine g_callV 2 F (As := [.int (J (j)), .int (J (p))]) (st := [.long (Lg (a))]) (c_X8_cleanWays l D ad x y z (j) (p) (hST) (hN) (hB) (by omega) (by omega)) (gR_8) rfl mk_X8_297 ki_X8_cleanWays kc_X8_cleanWays (by decide +kernel) rfl (by decide) dX8_odds_65 rfl (Nat.le_of_ble_eq_true rfl) (pI_k ?_)
                have hcc := ccU_r (x := z) (i := j) (p := p) (by omega)
                refine g_i2l F dX8_odds_68 (by omega) ?_
                refine g_lmul F dX8_odds_69 ?_
                refine g_lstore_n F [(2, .long (Lg ((a) * (ccU z (j) (p))))), (0, .ref (ad 8 (0))), (1, .int (J (p))), (4, .long (Lg (b))), (6, .int (J (j)))] dX8_odds_70 rfl (by decide) rfl ?_
                refine g_lload F dX8_odds_71 3 rfl ?_
                refine g_ldc2 F ck_X8_292 dX8_odds_73 (12) (by decide) ?_
                refine g_lmul F dX8_odds_76 ?_
                refine g_lstore F [(4, .long (Lg ((b) * (12)))), (2, .long (Lg ((a) * (ccU z (j) (p))))), (0, .ref (ad 8 (0))), (1, .int (J (p))), (6, .int (J (j)))] dX8_odds_77 (by decide) rfl ?_
                refine g_iinc F [(6, .int (J (j + 1))), (4, .long (Lg ((b) * (12)))), (2, .long (Lg ((a) * (ccU z (j) (p))))), (0, .ref (ad 8 (0))), (1, .int (J (p)))] 4 rfl dX8_odds_79 (by decide) rfl ?_
                refine g_goto F 32 dX8_odds_82 rfl ?_
                refine g_sub [3, 4, 2, 1, 0] (lv' := [(0, .ref (ad 8 (0))), (1, .int (J (p))), (2, .long (Lg ((a) * (ccU z (j) (p))))), (4, .long (Lg ((b) * (12)))), (6, .int (J (j + 1)))]) rfl ?_
                exact ih32 ((a) * (ccU z (j) (p))) ((b) * (12)) (j + 1) (by omega) (by omega) (by rw [pdZ_s _ (by omega), ← ha]; first | (rw [if_pos hmb]; done) | (rw [if_neg hmb, Int.mul_one]; done)) (by rw [pdZ_s _ (by omega), ← hb]; first | (rw [if_pos hmb]; done) | (rw [if_neg hmb, Int.mul_one]; done)) (by omega)
      refine g_sub [3, 4, 2, 1, 0] (lv' := [(0, .ref (ad 8 (0))), (1, .int (J (p))), (2, .long (Lg (1))), (4, .long (Lg (1))), (6, .int (J (0)))]) rfl ?_
      exact L32 _ (1) (1) (0) (by omega) (by omega) (rfl) (rfl) (Nat.lt_succ_self _)
    · skip
      refine g_bipush F dX8_odds_21 (-4) (by decide) ?_
      exact g_ireturn F hR dX8_odds_23 (pH_z (by unfold sOdds; first | (rw [hRf_a (by omega)]; rfl) | (rw [hRf_b (by omega) (by omega)]; rfl) | (rw [hRf_c (by omega) (by omega)]; rfl)) (by unfold sOdds; first | (rw [hRf_a (by omega)]; exact hRel) | (rw [hRf_b (by omega) (by omega)]; exact hRel) | (rw [hRf_c (by omega) (by omega)]; show Rel (tfM z (ouU z p) (olU z)) _; rw [show ouU z p = a from (ha.trans (by rw [show j = z 10 0 0 by omega])).symm, show olU z = b from (hb.trans (by rw [show j = z 10 0 0 by omega])).symm]; exact Rel_fr1 hRel (by omega))) rfl)
  · skip
    refine g_iconst F dX8_odds_12 (-1) (by decide) ?_
    exact g_ireturn F hR dX8_odds_13 (pH_z (by unfold sOdds; first | (rw [hRf_a (by omega)]; rfl) | (rw [hRf_b (by omega) (by omega)]; rfl) | (rw [hRf_c (by omega) (by omega)]; rfl)) (by unfold sOdds; first | (rw [hRf_a (by omega)]; exact hRel) | (rw [hRf_b (by omega) (by omega)]; exact hRel) | (rw [hRf_c (by omega) (by omega)]; show Rel (tfM z (ouU z p) (olU z)) _; rw [show ouU z p = a from (ha.trans (by rw [show j = z 10 0 0 by omega])).symm, show olU z = b from (hb.trans (by rw [show j = z 10 0 0 by omega])).symm]; exact Rel_fr1 hRel (by omega))) rfl)

set_option maxRecDepth 20000 in
theorem c_X8_mid (l : Launch) (D : gD) (ad : gA) (x : gX) (y : gY) (z : gX) (p : Int) (hp : i32 p) (hRel : Rel z y) : gC l D ad 5 yX8_mid cX8_mid 5 (some .int) [.ref (ad 8 (0)), .int (J (p))] x y (pH (.int (J ((sMid z p).1))) (x) (fun w9 => Rel (sMid z p).2 w9)) := by
  refine g_met RX8 rfl (by decide +kernel) [(0, .ref (ad 8 (0))), (1, .int (J (p)))] rfl (Nat.le_of_ble_eq_true rfl) (fun Θ F hR => ?_)
  have hN := hRel.1.1
  have hRW := hRel.1.2.1
  have hDD := hRel.1.2.2.1
  have hST := hRel.2.1
  have hB := Rel_SB hRel
  have h10 := hN.2.1
  have h15 := hN.2.2.1
  refine g_iload_n F dX8_mid_0 rfl 1 rfl ?_
  refine g_i2l F dX8_mid_1 (by omega) ?_
  refine g_lconst F dX8_mid_2 0 (by decide) ?_
  refine g_ldc2 F ck_X8_292 dX8_mid_3 (12) (by decide) ?_
  refine g_callS 3 F (As := [.long (Lg (p)), .long (Lg (0)), .long (Lg (12))]) (st := []) (c_X8_in l D ad x y (p) (0) (12) (by omega) (by omega) (by omega)) rfl mk_X8_74 ki_X8_in kc_X8_in (by decide +kernel) rfl (by decide) dX8_mid_6 rfl (Nat.le_of_ble_eq_true rfl) (pB_k ?_)
  refine g_ifb_ne 14 F dX8_mid_9 rfl (fun c_1 => ?_) (fun c_1 => ?_)
  · skip
    refine g_aload_n F dX8_mid_14 rfl 0 rfl ?_
    refine gg_Model_men F fk_X8_157 dX8_mid_15 ?_
    refine g_topi (b := z 10 0 0) (hST.2.2.2.2.1) ?_
    refine g_if_ne 24 F dX8_mid_18 (by omega) rfl (fun c_2 => ?_) (fun c_2 => ?_)
    · skip
      refine g_lconst F dX8_mid_24 0 (by decide) ?_
      refine g_lstore_n F [(2, .long (Lg (0))), (0, .ref (ad 8 (0))), (1, .int (J (p)))] dX8_mid_25 rfl (by decide) rfl ?_
      refine g_iconst F dX8_mid_26 (0) (by decide) ?_
      refine g_istore F [(4, .int (J (0))), (2, .long (Lg (0))), (0, .ref (ad 8 (0))), (1, .int (J (p)))] dX8_mid_27 (by decide) rfl ?_
      have L29 : ∀ (N : Nat) (a : Int) (j : Int), 0 ≤ j ∧ j ≤ z 10 0 0 → a = sumZ (fun i => if z 6 i 0 = -9 ∧ cU z i (z 15 0 0) then ccU z i p else 0) j → (z 10 0 0 - j).toNat < N → gW Θ l D ad 5 29 [(0, .ref (ad 8 (0))), (1, .int (J (p))), (2, .long (Lg (a))), (4, .int (J (j)))] [] x y := by
        intro N
        induction N with
        | zero => intro a j hj ha hFu; omega
        | succ N ih29 =>
          intro a j hj ha hFu
          refine g_iload F dX8_mid_29 3 rfl ?_
          refine g_aload_n F dX8_mid_31 rfl 0 rfl ?_
          refine gg_Model_men F fk_X8_157 dX8_mid_32 ?_
          refine g_topi (b := z 10 0 0) (hST.2.2.2.2.1) ?_
          refine g_icmp_ge 68 F dX8_mid_35 (by omega) (by omega) rfl (fun c_3 => ?_) (fun c_3 => ?_)
          · skip
            have ra : 0 * j ≤ sumZ (fun i => if z 6 i 0 = -9 ∧ cU z i (z 15 0 0) then ccU z i p else 0) j ∧ sumZ (fun i => if z 6 i 0 = -9 ∧ cU z i (z 15 0 0) then ccU z i p else 0) j ≤ 12 * j := sumZ_range (by omega) (fun i i0 i1 => by have := ccU_r (x := z) (i := i) (p := p) (by omega); show 0 ≤ (if z 6 i 0 = -9 ∧ cU z i (z 15 0 0) then ccU z i p else 0) ∧ (if z 6 i 0 = -9 ∧ cU z i (z 15 0 0) then ccU z i p else 0) ≤ 12; split <;> omega)
            refine g_aload_n F dX8_mid_68 rfl 0 rfl ?_
            refine g_lload_n F dX8_mid_69 rfl 2 rfl ?_
            refine g_ldc2 F ck_X8_292 dX8_mid_70 (12) (by decide) ?_
            refine g_callV 2 F (As := [.long (Lg (a)), .long (Lg (12))]) (st := []) (c_X8_tellParts l D ad x y (a) (12) (by rw [ha]; omega) (by omega)) (gR_8) rfl mk_X8_246 ki_X8_tellParts kc_X8_tellParts (by decide +kernel) rfl (by decide) dX8_mid_73 rfl (Nat.le_of_ble_eq_true rfl) (pI_k ?_)
            exact g_ireturn F hR dX8_mid_76 (pH_z (by unfold sMid; first | (rw [hRf_a (by omega)]; rfl) | (rw [hRf_b (by omega) (by omega)]; rfl) | (rw [hRf_c (by omega) (by omega)]; rfl)) (by unfold sMid; first | (rw [hRf_a (by omega)]; exact hRel) | (rw [hRf_b (by omega) (by omega)]; exact hRel) | (rw [hRf_c (by omega) (by omega)]; show Rel (tfM z (mdU z p) 12) _; rw [show mdU z p = a from (ha.trans (by rw [show j = z 10 0 0 by omega])).symm]; exact Rel_fr1 hRel (by decide))) rfl)
          · skip
            have hm := hN.2.2.2 j (by omega) (by omega)
            refine g_lload_n F dX8_mid_38 rfl 2 rfl ?_
            refine g_aload_n F dX8_mid_39 rfl 0 rfl ?_
            refine g_iload F dX8_mid_40 3 rfl ?_
            refine g_callV 1 F (As := [.int (J (j))]) (st := [.long (Lg (a))]) (c_X8_isHere l D ad x y z (j) (hST) (hN) (hB) (by omega)) (gR_8) rfl mk_X8_294 ki_X8_isHere kc_X8_isHere (by decide +kernel) rfl (by decide) dX8_mid_42 rfl (Nat.le_of_ble_eq_true rfl) (pB_k ?_)
            refine g_ifb_eq 59 F dX8_mid_45 rfl (fun c_4 => ?_) (fun c_4 => ?_)
            · skip
              refine g_lconst F dX8_mid_59 0 (by decide) ?_
              refine g_ladd F dX8_mid_60 ?_
              refine g_lstore_n F [(2, .long (Lg ((a) + (0)))), (0, .ref (ad 8 (0))), (1, .int (J (p))), (4, .int (J (j)))] dX8_mid_61 rfl (by decide) rfl ?_
              refine g_iinc F [(4, .int (J (j + 1))), (2, .long (Lg ((a) + (0)))), (0, .ref (ad 8 (0))), (1, .int (J (p)))] 3 rfl dX8_mid_62 (by decide) rfl ?_
              refine g_goto F 29 dX8_mid_65 rfl ?_
              refine g_sub [2, 3, 1, 0] (lv' := [(0, .ref (ad 8 (0))), (1, .int (J (p))), (2, .long (Lg ((a) + (0)))), (4, .int (J (j + 1)))]) rfl ?_
              exact ih29 ((a) + (0)) (j + 1) (by omega) (by rw [sumZ_s _ (by omega), ← ha]; first | (rw [if_pos (show z 6 j 0 = -9 ∧ cU z j (z 15 0 0) by assumption)]; done) | (rw [if_neg (show ¬ (z 6 j 0 = -9 ∧ cU z j (z 15 0 0)) by assumption)]; done)) (by omega)
            · skip
              refine g_aload_n F dX8_mid_48 rfl 0 rfl ?_
              refine g_iload F dX8_mid_49 3 rfl ?_
              refine g_iload_n F dX8_mid_51 rfl 1 rfl ?_
              refine g_callV 2 F (As := [.int (J (j)), .int (J (p))]) (st := [.long (Lg (a))]) (c_X8_cleanWays l D ad x y z (j) (p) (hST) (hN) (hB) (by omega) (by omega)) (gR_8) rfl mk_X8_297 ki_X8_cleanWays kc_X8_cleanWays (by decide +kernel) rfl (by decide) dX8_mid_52 rfl (Nat.le_of_ble_eq_true rfl) (pI_k ?_)
              have hcc := ccU_r (x := z) (i := j) (p := p) (by omega)
              refine g_i2l F dX8_mid_55 (by omega) ?_
              refine g_goto F 60 dX8_mid_56 rfl ?_
              refine g_ladd F dX8_mid_60 ?_
              refine g_lstore_n F [(2, .long (Lg ((a) + (ccU z (j) (p))))), (0, .ref (ad 8 (0))), (1, .int (J (p))), (4, .int (J (j)))] dX8_mid_61 rfl (by decide) rfl ?_
              refine g_iinc F [(4, .int (J (j + 1))), (2, .long (Lg ((a) + (ccU z (j) (p))))), (0, .ref (ad 8 (0))), (1, .int (J (p)))] 3 rfl dX8_mid_62 (by decide) rfl ?_
              refine g_goto F 29 dX8_mid_65 rfl ?_
              refine g_sub [2, 3, 1, 0] (lv' := [(0, .ref (ad 8 (0))), (1, .int (J (p))), (2, .long (Lg ((a) + (ccU z (j) (p))))), (4, .int (J (j + 1)))]) rfl ?_
              exact ih29 ((a) + (ccU z (j) (p))) (j + 1) (by omega) (by rw [sumZ_s _ (by omega), ← ha]; first | (rw [if_pos (show z 6 j 0 = -9 ∧ cU z j (z 15 0 0) by assumption)]; done) | (rw [if_neg (show ¬ (z 6 j 0 = -9 ∧ cU z j (z 15 0 0)) by assumption)]; done)) (by omega)
      refine g_sub [2, 3, 1, 0] (lv' := [(0, .ref (ad 8 (0))), (1, .int (J (p))), (2, .long (Lg (0))), (4, .int (J (0)))]) rfl ?_
      exact L29 _ (0) (0) (by omega) (rfl) (Nat.lt_succ_self _)
    · skip
      refine g_bipush F dX8_mid_21 (-4) (by decide) ?_
      exact g_ireturn F hR dX8_mid_23 (pH_z (by unfold sMid; first | (rw [hRf_a (by omega)]; rfl) | (rw [hRf_b (by omega) (by omega)]; rfl) | (rw [hRf_c (by omega) (by omega)]; rfl)) (by unfold sMid; first | (rw [hRf_a (by omega)]; exact hRel) | (rw [hRf_b (by omega) (by omega)]; exact hRel) | (rw [hRf_c (by omega) (by omega)]; show Rel (tfM z (mdU z p) 12) _; rw [show mdU z p = a from (ha.trans (by rw [show j = z 10 0 0 by omega])).symm]; exact Rel_fr1 hRel (by decide))) rfl)
  · skip
    refine g_iconst F dX8_mid_12 (-1) (by decide) ?_
    exact g_ireturn F hR dX8_mid_13 (pH_z (by unfold sMid; first | (rw [hRf_a (by omega)]; rfl) | (rw [hRf_b (by omega) (by omega)]; rfl) | (rw [hRf_c (by omega) (by omega)]; rfl)) (by unfold sMid; first | (rw [hRf_a (by omega)]; exact hRel) | (rw [hRf_b (by omega) (by omega)]; exact hRel) | (rw [hRf_c (by omega) (by omega)]; show Rel (tfM z (mdU z p) 12) _; rw [show mdU z p = a from (ha.trans (by rw [show j = z 10 0 0 by omega])).symm]; exact Rel_fr1 hRel (by decide))) rfl)

set_option maxRecDepth 20000 in
theorem c_X8_least (l : Launch) (D : gD) (ad : gA) (x : gX) (y : gY) (z : gX) (hRel : Rel z y) : gC l D ad 4 yX8_least cX8_least 5 (some .int) [.ref (ad 8 (0))] x y (pH (.int (J ((sLeast z ).1))) (x) (fun w9 => Rel (sLeast z ).2 w9)) := by
  refine g_met RX8 rfl (by decide +kernel) [(0, .ref (ad 8 (0)))] rfl (Nat.le_of_ble_eq_true rfl) (fun Θ F hR => ?_)
  have hN := hRel.1.1
  have hRW := hRel.1.2.1
  have hDD := hRel.1.2.2.1
  have hST := hRel.2.1
  have hB := Rel_SB hRel
  have h10 := hN.2.1
  have h15 := hN.2.2.1
  refine g_aload_n F dX8_least_0 rfl 0 rfl ?_
  refine gg_Model_men F fk_X8_157 dX8_least_1 ?_
  refine g_topi (b := z 10 0 0) (hST.2.2.2.2.1) ?_
  refine g_if_ne 10 F dX8_least_4 (by omega) rfl (fun c_1 => ?_) (fun c_1 => ?_)
  · skip
    refine g_iconst F dX8_least_10 (0) (by decide) ?_
    refine g_istore_n F [(1, .int (J (0))), (0, .ref (ad 8 (0)))] dX8_least_11 rfl (by decide) rfl ?_
    refine g_iconst F dX8_least_12 (0) (by decide) ?_
    refine g_istore_n F [(2, .int (J (0))), (1, .int (J (0))), (0, .ref (ad 8 (0)))] dX8_least_13 rfl (by decide) rfl ?_
    refine g_iconst F dX8_least_14 (0) (by decide) ?_
    refine g_istore_n F [(3, .int (J (0))), (2, .int (J (0))), (1, .int (J (0))), (0, .ref (ad 8 (0)))] dX8_least_15 rfl (by decide) rfl ?_
    have L16 : ∀ (N : Nat) (a : Int) (b : Int) (j : Int), 0 ≤ j ∧ j ≤ z 10 0 0 → a = sumZ (fun i => ndU z i) j → b = sumZ (fun i => if 0 < ndU z i then 1 else 0) j → lsP z j → (z 10 0 0 - j).toNat < N → gW Θ l D ad 5 16 [(0, .ref (ad 8 (0))), (1, .int (J (a))), (2, .int (J (b))), (3, .int (J (j)))] [] x y := by
      intro N
      induction N with
      | zero => intro a b j hj ha hb hl hFu; omega
      | succ N ih16 =>
        intro a b j hj ha hb hl hFu
        refine g_iload_n F dX8_least_16 rfl 3 rfl ?_
        refine g_aload_n F dX8_least_17 rfl 0 rfl ?_
        refine gg_Model_men F fk_X8_157 dX8_least_18 ?_
        refine g_topi (b := z 10 0 0) (hST.2.2.2.2.1) ?_
        refine g_icmp_ge 124 F dX8_least_21 (by omega) (by omega) rfl (fun c_2 => ?_) (fun c_2 => ?_)
        · skip
          refine g_aload_n F dX8_least_124 rfl 0 rfl ?_
          refine g_iload_n F dX8_least_125 rfl 2 rfl ?_
          refine gp_Model_asked F fk_X8_69 dX8_least_126 ?_
          refine g_iload_n F dX8_least_129 rfl 1 rfl ?_
          exact g_ireturn F hR dX8_least_130 (pH_z (by unfold sLeast; first | (rw [if_pos (by omega)]; done) | (rw [if_neg (by omega), if_pos (mm_no (P := fun i => z 5 i 0 + ndU z i ≤ 3) (j := j) (by omega) (by omega) (by omega))]; done) | (rw [show j = z 10 0 0 by omega] at hl ha hb; rw [if_neg (by omega), if_neg (fun q => q hl)]; exact ha)) (by unfold sLeast; first | (rw [if_pos (by omega)]; exact hRel) | (rw [if_neg (by omega), if_pos (mm_no (P := fun i => z 5 i 0 + ndU z i ≤ 3) (j := j) (by omega) (by omega) (by omega))]; exact hRel) | (rw [show j = z 10 0 0 by omega] at hl ha hb; rw [if_neg (by omega), if_neg (fun q => q hl)]; rw [← hb]; exact Rel_tell hRel _)) rfl)
        · skip
          have hm := hN.2.2.2 j (by omega) (by omega)
          have hs3 := sal3 hRel.1 hj.1 (show j < z 10 0 0 by omega)
          refine g_aload_n F dX8_least_24 rfl 0 rfl ?_
          refine g_iload_n F dX8_least_25 rfl 3 rfl ?_
          refine g_callV 1 F (As := [.int (J (j))]) (st := []) (c_X8_isDone l D ad x y z (j) (hST) (hN) (hB) (by omega)) (gR_8) rfl mk_X8_219 ki_X8_isDone kc_X8_isDone (by decide +kernel) rfl (by decide) dX8_least_26 rfl (Nat.le_of_ble_eq_true rfl) (pB_k ?_)
          refine g_ifb_ne 118 F dX8_least_29 rfl (fun c_3 => ?_) (fun c_3 => ?_)
          · skip
            have hnd : ndU z j = 0 := if_neg (fun q => by omega)
            refine g_iinc F [(3, .int (J (j + 1))), (0, .ref (ad 8 (0))), (1, .int (J (a))), (2, .int (J (b)))] 3 rfl dX8_least_118 (by decide) rfl ?_
            refine g_goto F 16 dX8_least_121 rfl ?_
            refine g_sub [1, 2, 3, 0] (lv' := [(0, .ref (ad 8 (0))), (1, .int (J (a))), (2, .int (J (b))), (3, .int (J (j + 1)))]) rfl ?_
            exact ih16 (a) (b) (j + 1) (by omega) (by rw [sumZ_s _ (by omega), ← ha]; omega) (by rw [sumZ_s _ (by omega), ← hb]; split <;> omega) ((mm_s (f := fun i => z 5 i 0 + ndU z i ≤ 3) (by omega)).mpr ⟨hl, by omega⟩) (by omega)
          · skip
            refine g_aload_n F dX8_least_32 rfl 0 rfl ?_
            refine gg_Model_guilts F fk_X8_16 dX8_least_33 ?_
            refine g_iload_n F dX8_least_36 rfl 3 rfl ?_
            refine ga_42 F (by omega) dX8_least_37 ?_
            refine g_topi (b := z 2 (j) 0) ((hST.2.2.2.2.2 _ (by omega) (by omega)).2.1) ?_
            refine g_if_ne 118 F dX8_least_38 (by omega) rfl (fun c_4 => ?_) (fun c_4 => ?_)
            · skip
              have hnd : ndU z j = 0 := if_neg (fun q => by omega)
              refine g_iinc F [(3, .int (J (j + 1))), (0, .ref (ad 8 (0))), (1, .int (J (a))), (2, .int (J (b)))] 3 rfl dX8_least_118 (by decide) rfl ?_
              refine g_goto F 16 dX8_least_121 rfl ?_
              refine g_sub [1, 2, 3, 0] (lv' := [(0, .ref (ad 8 (0))), (1, .int (J (a))), (2, .int (J (b))), (3, .int (J (j + 1)))]) rfl ?_
              exact ih16 (a) (b) (j + 1) (by omega) (by rw [sumZ_s _ (by omega), ← ha]; omega) (by rw [sumZ_s _ (by omega), ← hb]; split <;> omega) ((mm_s (f := fun i => z 5 i 0 + ndU z i ≤ 3) (by omega)).mpr ⟨hl, by omega⟩) (by omega)
            · skip
              refine g_aload_n F dX8_least_41 rfl 0 rfl ?_
              refine g_iload_n F dX8_least_42 rfl 3 rfl ?_
              refine g_aload_n F dX8_least_43 rfl 0 rfl ?_
              refine gg_Model_row F fk_X8_7 dX8_least_44 ?_
              refine g_iconst F dX8_least_47 (1) (by decide) ?_
              refine ga_40 F (by decide) dX8_least_48 ?_
              refine g_topi (b := z 15 0 0) (SB_00 hB) ?_
              refine g_callV 2 F (As := [.int (J (j)), .int (J (z 15 0 0))]) (st := []) (c_X8_doesCome l D ad x y z (j) (z 15 0 0) (hST) (hN) (by omega) (by omega)) (gR_8) rfl mk_X8_185 ki_X8_doesCome kc_X8_doesCome (by decide +kernel) rfl (by decide) dX8_least_49 rfl (Nat.le_of_ble_eq_true rfl) (pB_k ?_)
              refine g_ifb_eq 118 F dX8_least_52 rfl (fun c_5 => ?_) (fun c_5 => ?_)
              · skip
                have hnd : ndU z j = 0 := if_neg (fun q => c_5 q.2.2)
                refine g_iinc F [(3, .int (J (j + 1))), (0, .ref (ad 8 (0))), (1, .int (J (a))), (2, .int (J (b)))] 3 rfl dX8_least_118 (by decide) rfl ?_
                refine g_goto F 16 dX8_least_121 rfl ?_
                refine g_sub [1, 2, 3, 0] (lv' := [(0, .ref (ad 8 (0))), (1, .int (J (a))), (2, .int (J (b))), (3, .int (J (j + 1)))]) rfl ?_
                exact ih16 (a) (b) (j + 1) (by omega) (by rw [sumZ_s _ (by omega), ← ha]; omega) (by rw [sumZ_s _ (by omega), ← hb]; split <;> omega) ((mm_s (f := fun i => z 5 i 0 + ndU z i ≤ 3) (by omega)).mpr ⟨hl, by omega⟩) (by omega)
              · skip
                have hbu := bU_r hN.1 hm (h := z 15 0 0) (by omega)
                have hnd : ndU z j = (max 0 (bU z j (z 15 0 0) - (z 13 0 0 + 2 * z 5 j 0)) + 1) / 2 := by rw [← sn_eq]; exact if_pos ⟨by omega, by omega, by assumption⟩
                refine g_aload_n F dX8_least_55 rfl 0 rfl ?_
                refine g_iload_n F dX8_least_56 rfl 3 rfl ?_
                refine g_aload_n F dX8_least_57 rfl 0 rfl ?_
                refine gg_Model_row F fk_X8_7 dX8_least_58 ?_
                refine g_iconst F dX8_least_61 (1) (by decide) ?_
                refine ga_40 F (by decide) dX8_least_62 ?_
                refine g_topi (b := z 15 0 0) (SB_00 hB) ?_
                refine g_callV 2 F (As := [.int (J (j)), .int (J (z 15 0 0))]) (st := []) (c_X8_burns l D ad x y z (j) (z 15 0 0) (hST) (hN) (by omega) (by omega)) (gR_8) rfl mk_X8_179 ki_X8_burns kc_X8_burns (by decide +kernel) rfl (by decide) dX8_least_63 rfl (Nat.le_of_ble_eq_true rfl) (pI_k ?_)
                refine g_aload_n F dX8_least_66 rfl 0 rfl ?_
                refine g_iconst F dX8_least_67 (0) (by decide) ?_
                refine g_iload_n F dX8_least_68 rfl 3 rfl ?_
                refine g_callV 2 F (As := [.int (J (0)), .int (J (j))]) (st := [.int (J (bU z (j) (z 15 0 0)))]) (c_X8_bearable l D ad x y z (0) (j) (hST) (hN) (hB) (by omega) (by omega)) (gR_8) rfl mk_X8_182 ki_X8_bearable kc_X8_bearable (by decide +kernel) rfl (by decide) dX8_least_69 rfl (Nat.le_of_ble_eq_true rfl) (pI_k ?_)
                refine g_isub F dX8_least_72 ?_
                refine g_callS 1 F (As := [.int (J ((bU z (j) (z 15 0 0)) - (z 13 0 0 + 2 * z 5 (j) 0)))]) (st := []) (c_X8_some l D ad x y ((bU z (j) (z 15 0 0)) - (z 13 0 0 + 2 * z 5 (j) 0)) (by omega)) rfl mk_X8_163 ki_X8_some kc_X8_some (by decide +kernel) rfl (by decide) dX8_least_73 rfl (Nat.le_of_ble_eq_true rfl) (pI_k ?_)
                refine g_iconst F dX8_least_76 (1) (by decide) ?_
                refine g_iadd F dX8_least_77 ?_
                refine g_iconst F dX8_least_78 (2) (by decide) ?_
                refine g_idivp F dX8_least_79 (by omega) (by decide) (by omega) (by decide) ?_
                refine g_istore F [(4, .int (J (((max 0 ((bU z (j) (z 15 0 0)) - (z 13 0 0 + 2 * z 5 (j) 0))) + (1)) / (2)))), (0, .ref (ad 8 (0))), (1, .int (J (a))), (2, .int (J (b))), (3, .int (J (j)))] dX8_least_80 (by decide) rfl ?_
                refine g_aload_n F dX8_least_82 rfl 1 rfl ?_
                refine gg_Model_row F fk_X8_7 dX8_least_83 ?_
                refine g_iconst F dX8_least_86 (5) (by decide) ?_
                refine g_iload_n F dX8_least_87 rfl 4 rfl ?_
                refine g_iadd F dX8_least_88 ?_
                refine ga_40 F (by omega) dX8_least_89 ?_
                refine g_topi (b := z 5 (j) 0) (SB_05 hB hN.2.1.2 (by omega) (by omega)) ?_
                refine g_iload F dX8_least_90 0 rfl ?_
                refine g_iadd F dX8_least_92 ?_
                refine g_iconst F dX8_least_93 (3) (by decide) ?_
                refine g_icmp_le 100 F dX8_least_94 (by omega) (by decide) rfl (fun c_6 => ?_) (fun c_6 => ?_)
                · skip
                  refine g_iload_n F dX8_least_100 rfl 2 rfl ?_
                  refine g_iload F dX8_least_101 0 rfl ?_
                  refine g_iadd F dX8_least_103 ?_
                  refine g_istore_n F [(1, .int (J ((a) + (((max 0 ((bU z (j) (z 15 0 0)) - (z 13 0 0 + 2 * z 5 (j) 0))) + (1)) / (2))))), (4, .int (J (((max 0 ((bU z (j) (z 15 0 0)) - (z 13 0 0 + 2 * z 5 (j) 0))) + (1)) / (2)))), (0, .ref (ad 8 (0))), (2, .int (J (b))), (3, .int (J (j)))] dX8_least_104 rfl (by decide) rfl ?_
                  refine g_iload_n F dX8_least_105 rfl 3 rfl ?_
                  refine g_iload F dX8_least_106 1 rfl ?_
                  refine g_if_le 115 F dX8_least_108 (by omega) rfl (fun c_7 => ?_) (fun c_7 => ?_)
                  · skip
                    refine g_iconst F dX8_least_115 (0) (by decide) ?_
                    refine g_iadd F dX8_least_116 ?_
                    refine g_istore_n F [(2, .int (J ((b) + (0)))), (1, .int (J ((a) + (((max 0 ((bU z (j) (z 15 0 0)) - (z 13 0 0 + 2 * z 5 (j) 0))) + (1)) / (2))))), (4, .int (J (((max 0 ((bU z (j) (z 15 0 0)) - (z 13 0 0 + 2 * z 5 (j) 0))) + (1)) / (2)))), (0, .ref (ad 8 (0))), (3, .int (J (j)))] dX8_least_117 rfl (by decide) rfl ?_
                    refine g_iinc F [(3, .int (J (j + 1))), (2, .int (J ((b) + (0)))), (1, .int (J ((a) + (((max 0 ((bU z (j) (z 15 0 0)) - (z 13 0 0 + 2 * z 5 (j) 0))) + (1)) / (2))))), (4, .int (J (((max 0 ((bU z (j) (z 15 0 0)) - (z 13 0 0 + 2 * z 5 (j) 0))) + (1)) / (2)))), (0, .ref (ad 8 (0)))] 4 rfl dX8_least_118 (by decide) rfl ?_
                    refine g_goto F 16 dX8_least_121 rfl ?_
                    refine g_sub [4, 2, 1, 0] (lv' := [(0, .ref (ad 8 (0))), (1, .int (J ((a) + (((max 0 ((bU z (j) (z 15 0 0)) - (z 13 0 0 + 2 * z 5 (j) 0))) + (1)) / (2))))), (2, .int (J ((b) + (0)))), (3, .int (J (j + 1)))]) rfl ?_
                    exact ih16 ((a) + (((max 0 ((bU z (j) (z 15 0 0)) - (z 13 0 0 + 2 * z 5 (j) 0))) + (1)) / (2))) ((b) + (0)) (j + 1) (by omega) (by rw [sumZ_s _ (by omega), ← ha]; omega) (by rw [sumZ_s _ (by omega), ← hb]; split <;> omega) ((mm_s (f := fun i => z 5 i 0 + ndU z i ≤ 3) (by omega)).mpr ⟨hl, by omega⟩) (by omega)
                  · skip
                    refine g_iconst F dX8_least_111 (1) (by decide) ?_
                    refine g_goto F 116 dX8_least_112 rfl ?_
                    refine g_iadd F dX8_least_116 ?_
                    refine g_istore_n F [(2, .int (J ((b) + (1)))), (1, .int (J ((a) + (((max 0 ((bU z (j) (z 15 0 0)) - (z 13 0 0 + 2 * z 5 (j) 0))) + (1)) / (2))))), (4, .int (J (((max 0 ((bU z (j) (z 15 0 0)) - (z 13 0 0 + 2 * z 5 (j) 0))) + (1)) / (2)))), (0, .ref (ad 8 (0))), (3, .int (J (j)))] dX8_least_117 rfl (by decide) rfl ?_
                    refine g_iinc F [(3, .int (J (j + 1))), (2, .int (J ((b) + (1)))), (1, .int (J ((a) + (((max 0 ((bU z (j) (z 15 0 0)) - (z 13 0 0 + 2 * z 5 (j) 0))) + (1)) / (2))))), (4, .int (J (((max 0 ((bU z (j) (z 15 0 0)) - (z 13 0 0 + 2 * z 5 (j) 0))) + (1)) / (2)))), (0, .ref (ad 8 (0)))] 4 rfl dX8_least_118 (by decide) rfl ?_
                    refine g_goto F 16 dX8_least_121 rfl ?_
                    refine g_sub [4, 2, 1, 0] (lv' := [(0, .ref (ad 8 (0))), (1, .int (J ((a) + (((max 0 ((bU z (j) (z 15 0 0)) - (z 13 0 0 + 2 * z 5 (j) 0))) + (1)) / (2))))), (2, .int (J ((b) + (1)))), (3, .int (J (j + 1)))]) rfl ?_
                    exact ih16 ((a) + (((max 0 ((bU z (j) (z 15 0 0)) - (z 13 0 0 + 2 * z 5 (j) 0))) + (1)) / (2))) ((b) + (1)) (j + 1) (by omega) (by rw [sumZ_s _ (by omega), ← ha]; omega) (by rw [sumZ_s _ (by omega), ← hb]; split <;> omega) ((mm_s (f := fun i => z 5 i 0 + ndU z i ≤ 3) (by omega)).mpr ⟨hl, by omega⟩) (by omega)
                · skip
                  refine g_bipush F dX8_least_97 (-9) (by decide) ?_
                  exact g_ireturn F hR dX8_least_99 (pH_z (by unfold sLeast; first | (rw [if_pos (by omega)]; done) | (rw [if_neg (by omega), if_pos (mm_no (P := fun i => z 5 i 0 + ndU z i ≤ 3) (j := j) (by omega) (by omega) (by omega))]; done) | (rw [show j = z 10 0 0 by omega] at hl ha hb; rw [if_neg (by omega), if_neg (fun q => q hl)]; exact ha)) (by unfold sLeast; first | (rw [if_pos (by omega)]; exact hRel) | (rw [if_neg (by omega), if_pos (mm_no (P := fun i => z 5 i 0 + ndU z i ≤ 3) (j := j) (by omega) (by omega) (by omega))]; exact hRel) | (rw [show j = z 10 0 0 by omega] at hl ha hb; rw [if_neg (by omega), if_neg (fun q => q hl)]; rw [← hb]; exact Rel_tell hRel _)) rfl)
    refine g_sub [3, 2, 1, 0] (lv' := [(0, .ref (ad 8 (0))), (1, .int (J (0))), (2, .int (J (0))), (3, .int (J (0)))]) rfl ?_
    exact L16 _ (0) (0) (0) (by omega) (rfl) (rfl) (rfl) (Nat.lt_succ_self _)
  · skip
    refine g_bipush F dX8_least_7 (-4) (by decide) ?_
    exact g_ireturn F hR dX8_least_9 (pH_z (by unfold sLeast; first | (rw [if_pos (by omega)]; done) | (rw [if_neg (by omega), if_pos (mm_no (P := fun i => z 5 i 0 + ndU z i ≤ 3) (j := j) (by omega) (by omega) (by omega))]; done) | (rw [show j = z 10 0 0 by omega] at hl ha hb; rw [if_neg (by omega), if_neg (fun q => q hl)]; exact ha)) (by unfold sLeast; first | (rw [if_pos (by omega)]; exact hRel) | (rw [if_neg (by omega), if_pos (mm_no (P := fun i => z 5 i 0 + ndU z i ≤ 3) (j := j) (by omega) (by omega) (by omega))]; exact hRel) | (rw [show j = z 10 0 0 by omega] at hl ha hb; rw [if_neg (by omega), if_neg (fun q => q hl)]; rw [← hb]; exact Rel_tell hRel _)) rfl)

set_option maxRecDepth 20000 in
theorem c_X8_duel (l : Launch) (D : gD) (ad : gA) (x : gX) (y : gY) (z : gX) (n : Int) (hn : i32 n) (hRel : Rel z y) : gC l D ad 7 yX8_duel cX8_duel 7 (some .int) [.ref (ad 8 (0)), .int (J (n))] x y (pH (.int (J ((sDuel z n).1))) (x) (fun w9 => Rel (sDuel z n).2 w9)) := by
  refine g_met RX8 rfl (by decide +kernel) [(0, .ref (ad 8 (0))), (1, .int (J (n)))] rfl (Nat.le_of_ble_eq_true rfl) (fun Θ F hR => ?_)
  have hN := hRel.1.1
  have hRW := hRel.1.2.1
  have hDD := hRel.1.2.2.1
  have hST := hRel.2.1
  have hB := Rel_SB hRel
  have h10 := hN.2.1
  have h15 := hN.2.2.1
  refine g_iload_n F dX8_duel_0 rfl 1 rfl ?_
  refine g_i2l F dX8_duel_1 (by omega) ?_
  refine g_lconst F dX8_duel_2 0 (by decide) ?_
  refine g_ldc2 F ck_X8_287 dX8_duel_3 (6) (by decide) ?_
  refine g_callS 3 F (As := [.long (Lg (n)), .long (Lg (0)), .long (Lg (6))]) (st := []) (c_X8_in l D ad x y (n) (0) (6) (by omega) (by omega) (by omega)) rfl mk_X8_74 ki_X8_in kc_X8_in (by decide +kernel) rfl (by decide) dX8_duel_6 rfl (Nat.le_of_ble_eq_true rfl) (pB_k ?_)
  refine g_ifb_ne 14 F dX8_duel_9 rfl (fun c_1 => ?_) (fun c_1 => ?_)
  · skip
    refine g_aload_n F dX8_duel_14 rfl 0 rfl ?_
    refine gg_Model_men F fk_X8_157 dX8_duel_15 ?_
    refine g_topi (b := z 10 0 0) (hST.2.2.2.2.1) ?_
    refine g_if_ne 24 F dX8_duel_18 (by omega) rfl (fun c_2 => ?_) (fun c_2 => ?_)
    · skip
      refine g_iconst F dX8_duel_24 (0) (by decide) ?_
      refine g_istore_n F [(2, .int (J (0))), (0, .ref (ad 8 (0))), (1, .int (J (n)))] dX8_duel_25 rfl (by decide) rfl ?_
      have L26 : ∀ (N : Nat) (q : Int), 0 ≤ q ∧ q ≤ 31 → (31 - q).toNat < N → gW Θ l D ad 7 26 [(0, .ref (ad 8 (0))), (1, .int (J (n))), (2, .int (J (q)))] [] x (fdM y 54 (fun h => foU z h) q) := by
        intro N
        induction N with
        | zero => intro q hq hFu; omega
        | succ N ih26 =>
          intro q hq hFu
          refine g_iload_n F dX8_duel_26 rfl 2 rfl ?_
          refine g_bipush F dX8_duel_27 (31) (by decide) ?_
          refine g_icmp_ge 49 F dX8_duel_29 (by omega) (by decide) rfl (fun c_3 => ?_) (fun c_3 => ?_)
          · skip
            refine g_iload_n F dX8_duel_49 rfl 1 rfl ?_
            refine g_iconst F dX8_duel_50 (1) (by decide) ?_
            refine g_isub F dX8_duel_51 ?_
            refine g_istore_n F [(2, .int (J ((n) - (1)))), (0, .ref (ad 8 (0))), (1, .int (J (n)))] dX8_duel_52 rfl (by decide) rfl ?_
            have L53 : ∀ (N : Nat) (w : gY) (j : Int), -1 ≤ j ∧ j < n → DY z n y w j → (j + 1).toNat < N → gW Θ l D ad 7 53 [(0, .ref (ad 8 (0))), (1, .int (J (n))), (2, .int (J (j)))] [] x w := by
              intro N
              induction N with
              | zero => intro w j hj hw hFu; omega
              | succ N ih53 =>
                intro w j hj hw hFu
                have hf : ∀ h : Int, 0 ≤ h → h ≤ 30 → 0 ≤ w 54 h ∧ w 54 h ≤ 6 := fun h h0 h1 => by rw [hw.2 h h0 h1]; exact dwN_r (fun q _ _ => foU_r hN q) _ h h0 h1
                refine g_iload_n F dX8_duel_53 rfl 2 rfl ?_
                refine g_if_lt 188 F dX8_duel_54 (by omega) rfl (fun c_4 => ?_) (fun c_4 => ?_)
                · skip
                  refine g_aload_n F dX8_duel_188 rfl 0 rfl ?_
                  refine gg_Model_fouls F fk_X8_56 dX8_duel_189 ?_
                  refine g_aload_n F dX8_duel_192 rfl 0 rfl ?_
                  refine gg_Model_row F fk_X8_7 dX8_duel_193 ?_
                  refine g_iconst F dX8_duel_196 (1) (by decide) ?_
                  refine ga_40 F (by decide) dX8_duel_197 ?_
                  refine g_topi (b := z 15 0 0) (by rw [hw.1 40 1 (by decide)]; exact SB_00 hB) ?_
                  refine ga_54 F (by omega) dX8_duel_198 ?_
                  exact g_ireturn F hR dX8_duel_199 (pH_z (by unfold sDuel; first | (rw [if_pos (by omega)]; done) | (rw [if_neg (by omega), if_pos (by omega)]; done) | (rw [if_neg (by omega), if_neg (by omega)]; rw [hw.2 _ (by omega) (by omega), show (n - 1 - j).toNat = n.toNat by omega])) (by unfold sDuel; first | (rw [if_pos (by omega)]; exact hRel) | (rw [if_neg (by omega), if_pos (by omega)]; exact hRel) | (rw [if_neg (by omega), if_neg (by omega)]; exact Rel_ys hRel hw.1)) rfl)
                · skip
                  refine g_iconst F dX8_duel_57 (0) (by decide) ?_
                  refine g_istore_n F [(3, .int (J (0))), (0, .ref (ad 8 (0))), (1, .int (J (n))), (2, .int (J (j)))] dX8_duel_58 rfl (by decide) rfl ?_
                  have L59 : ∀ (N : Nat) (q : Int), 0 ≤ q ∧ q ≤ 31 → (31 - q).toNat < N → gW Θ l D ad 7 59 [(0, .ref (ad 8 (0))), (1, .int (J (n))), (2, .int (J (j))), (3, .int (J (q)))] [] x (fdM w 55 (fun q => chZ (w 54) q (j % 2 = 0)) q) := by
                    intro N
                    induction N with
                    | zero => intro q hq hFu; omega
                    | succ N ih59 =>
                      intro q hq hFu
                      refine g_iload_n F dX8_duel_59 rfl 3 rfl ?_
                      refine g_bipush F dX8_duel_60 (31) (by decide) ?_
                      refine g_icmp_ge 156 F dX8_duel_62 (by omega) (by decide) rfl (fun c_5 => ?_) (fun c_5 => ?_)
                      · skip
                        refine g_iconst F dX8_duel_156 (0) (by decide) ?_
                        refine g_istore_n F [(3, .int (J (0))), (0, .ref (ad 8 (0))), (1, .int (J (n))), (2, .int (J (j)))] dX8_duel_157 rfl (by decide) rfl ?_
                        have L158 : ∀ (N : Nat) (q : Int), 0 ≤ q ∧ q ≤ 31 → (31 - q).toNat < N → gW Θ l D ad 7 158 [(0, .ref (ad 8 (0))), (1, .int (J (n))), (2, .int (J (j))), (3, .int (J (q)))] [] x (fdM (fdM w 55 (fun q => chZ (w 54) q (j % 2 = 0)) 31) 54 (fun q => fdM w 55 (fun q => chZ (w 54) q (j % 2 = 0)) 31 55 q) q) := by
                          intro N
                          induction N with
                          | zero => intro q hq hFu; omega
                          | succ N ih158 =>
                            intro q hq hFu
                            refine g_iload_n F dX8_duel_158 rfl 3 rfl ?_
                            refine g_bipush F dX8_duel_159 (31) (by decide) ?_
                            refine g_icmp_ge 182 F dX8_duel_161 (by omega) (by decide) rfl (fun c_6 => ?_) (fun c_6 => ?_)
                            · skip
                              refine g_iinc F [(2, .int (J (j + (-1)))), (0, .ref (ad 8 (0))), (1, .int (J (n))), (3, .int (J (q)))] 2 rfl dX8_duel_182 (by decide) rfl ?_
                              refine g_goto F 53 dX8_duel_185 rfl ?_
                              refine g_sub [1, 2, 0] (lv' := [(0, .ref (ad 8 (0))), (1, .int (J (n))), (2, .int (J (j + (-1))))]) rfl ?_
                              exact ih53 ((fdM (fdM w 55 (fun q => chZ (w 54) q (j % 2 = 0)) 31) 54 (fun q => fdM w 55 (fun q => chZ (w 54) q (j % 2 = 0)) 31 55 q) q)) (j + (-1)) (by omega) (by have e : q = 31 := (by omega); subst e; exact DY_s (by omega) hw) (by omega)
                            · skip
                              refine g_aload_n F dX8_duel_164 rfl 0 rfl ?_
                              refine gg_Model_fouls F fk_X8_56 dX8_duel_165 ?_
                              refine g_iload_n F dX8_duel_168 rfl 3 rfl ?_
                              refine g_aload_n F dX8_duel_169 rfl 0 rfl ?_
                              refine gg_Model_before F fk_X8_59 dX8_duel_170 ?_
                              refine g_iload_n F dX8_duel_173 rfl 3 rfl ?_
                              refine ga_55 F (by omega) dX8_duel_174 ?_
                              refine gs_54 F (by omega) dX8_duel_175 ?_
                              refine g_iinc F [(3, .int (J (q + 1))), (0, .ref (ad 8 (0))), (1, .int (J (n))), (2, .int (J (j)))] 3 rfl dX8_duel_176 (by decide) rfl ?_
                              refine g_goto F 158 dX8_duel_179 rfl ?_
                              refine g_sub [1, 2, 3, 0] (lv' := [(0, .ref (ad 8 (0))), (1, .int (J (n))), (2, .int (J (j))), (3, .int (J (q + 1)))]) rfl ?_
                              exact gW_eq (ih158 (q + 1) (by omega) (by omega)) rfl rfl rfl (rfl) (by rw [← fdM_s _ _ _ (by omega), fdM_k (k := 55) (fdM w 55 (fun q => chZ (w 54) q (j % 2 = 0)) 31) 54 _ _ (by decide)])
                        refine g_sub [1, 2, 3, 0] (lv' := [(0, .ref (ad 8 (0))), (1, .int (J (n))), (2, .int (J (j))), (3, .int (J (0)))]) rfl ?_
                        exact gW_eq (L158 _ (0) (by omega) (Nat.lt_succ_self _)) rfl rfl rfl (rfl) (by rw [fdM_0, show q = 31 by omega])
                      · skip
                        refine g_aload_n F dX8_duel_65 rfl 0 rfl ?_
                        refine gg_Model_fouls F fk_X8_56 dX8_duel_66 ?_
                        refine g_iload_n F dX8_duel_69 rfl 3 rfl ?_
                        refine ga_54 F (by omega) dX8_duel_70 ?_
                        refine g_topi (b := w 54 (q)) (by rw [fdM_k _ _ _ _ (by decide)]) ?_
                        refine g_istore F [(4, .int (J (w 54 (q)))), (0, .ref (ad 8 (0))), (1, .int (J (n))), (2, .int (J (j))), (3, .int (J (q)))] dX8_duel_71 (by decide) rfl ?_
                        refine g_bipush F dX8_duel_73 (-3) (by decide) ?_
                        refine g_istore F [(5, .int (J (-3))), (4, .int (J (w 54 (q)))), (0, .ref (ad 8 (0))), (1, .int (J (n))), (2, .int (J (j))), (3, .int (J (q)))] dX8_duel_75 (by decide) rfl ?_
                        have L77 : ∀ (N : Nat) (a : Int) (b : Int), -3 ≤ b ∧ b ≤ 4 → 0 ≤ a ∧ a ≤ 6 → a = chN (w 54) q (j % 2 = 0) (b + 3).toNat → (4 - b).toNat < N → gW Θ l D ad 7 77 [(0, .ref (ad 8 (0))), (1, .int (J (n))), (2, .int (J (j))), (3, .int (J (q))), (4, .int (J (a))), (5, .int (J (b)))] [] x (fdM w 55 (fun q => chZ (w 54) q (j % 2 = 0)) q) := by
                          intro N
                          induction N with
                          | zero => intro a b hb har ha hFu; omega
                          | succ N ih77 =>
                            intro a b hb har ha hFu
                            refine g_iload F dX8_duel_77 5 rfl ?_
                            refine g_iconst F dX8_duel_79 (4) (by decide) ?_
                            refine g_icmp_ge 142 F dX8_duel_80 (by omega) (by decide) rfl (fun c_7 => ?_) (fun c_7 => ?_)
                            · skip
                              have hac : chZ (w 54) q (j % 2 = 0) = a := by rw [ha, show b = 4 by omega]; rfl
                              refine g_aload_n F dX8_duel_142 rfl 0 rfl ?_
                              refine gg_Model_before F fk_X8_59 dX8_duel_143 ?_
                              refine g_iload_n F dX8_duel_146 rfl 3 rfl ?_
                              refine g_iload F dX8_duel_147 4 rfl ?_
                              refine gs_55 F (by omega) dX8_duel_149 ?_
                              refine g_iinc F [(3, .int (J (q + 1))), (0, .ref (ad 8 (0))), (1, .int (J (n))), (2, .int (J (j))), (4, .int (J (a))), (5, .int (J (b)))] 3 rfl dX8_duel_150 (by decide) rfl ?_
                              refine g_goto F 59 dX8_duel_153 rfl ?_
                              refine g_sub [1, 2, 3, 0] (lv' := [(0, .ref (ad 8 (0))), (1, .int (J (n))), (2, .int (J (j))), (3, .int (J (q + 1)))]) rfl ?_
                              exact gW_eq (ih59 (q + 1) (by omega) (by omega)) rfl rfl rfl (rfl) (by rw [← fdM_s _ _ _ (by omega), hac])
                            · skip
                              refine g_aload_n F dX8_duel_83 rfl 0 rfl ?_
                              refine gg_Model_fouls F fk_X8_56 dX8_duel_84 ?_
                              refine g_iload_n F dX8_duel_87 rfl 3 rfl ?_
                              refine g_iload F dX8_duel_88 5 rfl ?_
                              refine g_iadd F dX8_duel_90 ?_
                              have hk := kH_r (q + b)
                              refine g_callS 1 F (As := [.int (J ((q) + (b)))]) (st := [.ref (ad 54 (0))]) (c_X8_heatOf l D ad x (fdM w 55 (fun q => chZ (w 54) q (j % 2 = 0)) q) ((q) + (b)) (by omega)) rfl mk_X8_213 ki_X8_heatOf kc_X8_heatOf (by decide +kernel) rfl (by decide) dX8_duel_91 rfl (Nat.le_of_ble_eq_true rfl) (pI_k ?_)
                              refine ga_54 F (by omega) dX8_duel_94 ?_
                              refine g_topi (b := w 54 (kH ((q) + (b)))) (by rw [fdM_k _ _ _ _ (by decide)]) ?_
                              have hk := kH_r (q + b)
                              have hv := hf (kH (q + b)) hk.1 hk.2
                              refine g_istore F [(6, .int (J (w 54 (kH ((q) + (b)))))), (0, .ref (ad 8 (0))), (1, .int (J (n))), (2, .int (J (j))), (3, .int (J (q))), (4, .int (J (a))), (5, .int (J (b)))] dX8_duel_95 (by decide) rfl ?_
                              refine g_iload_n F dX8_duel_97 rfl 3 rfl ?_
                              refine g_iconst F dX8_duel_98 (2) (by decide) ?_
                              refine g_iremp F dX8_duel_99 (by omega) (by decide) (by omega) (by decide) ?_
                              refine g_if_ne 120 F dX8_duel_100 (by omega) rfl (fun c_8 => ?_) (fun c_8 => ?_)
                              · skip
                                refine g_iload F dX8_duel_120 0 rfl ?_
                                refine g_iload F dX8_duel_122 5 rfl ?_
                                refine g_icmp_le 132 F dX8_duel_124 (by omega) (by omega) rfl (fun c_9 => ?_) (fun c_9 => ?_)
                                · skip
                                  refine g_iload F dX8_duel_132 5 rfl ?_
                                  refine g_istore F [(4, .int (J (a))), (6, .int (J (w 54 (kH ((q) + (b)))))), (0, .ref (ad 8 (0))), (1, .int (J (n))), (2, .int (J (j))), (3, .int (J (q))), (5, .int (J (b)))] dX8_duel_134 (by decide) rfl ?_
                                  refine g_iinc F [(5, .int (J (b + 1))), (4, .int (J (a))), (6, .int (J (w 54 (kH ((q) + (b)))))), (0, .ref (ad 8 (0))), (1, .int (J (n))), (2, .int (J (j))), (3, .int (J (q)))] 6 rfl dX8_duel_136 (by decide) rfl ?_
                                  refine g_goto F 77 dX8_duel_139 rfl ?_
                                  refine g_sub [3, 4, 5, 6, 1, 0] (lv' := [(0, .ref (ad 8 (0))), (1, .int (J (n))), (2, .int (J (j))), (3, .int (J (q))), (4, .int (J (a))), (5, .int (J (b + 1)))]) rfl ?_
                                  exact ih77 (a) (b + 1) (by omega) (by omega) (by rw [chN_s _ _ (by omega), ← ha]; first | (rw [if_pos (by omega)]; omega) | (rw [if_neg (by omega)]; omega)) (by omega)
                                · skip
                                  refine g_iload F dX8_duel_127 0 rfl ?_
                                  refine g_goto F 134 dX8_duel_129 rfl ?_
                                  refine g_istore F [(4, .int (J (w 54 (kH ((q) + (b)))))), (6, .int (J (w 54 (kH ((q) + (b)))))), (0, .ref (ad 8 (0))), (1, .int (J (n))), (2, .int (J (j))), (3, .int (J (q))), (5, .int (J (b)))] dX8_duel_134 (by decide) rfl ?_
                                  refine g_iinc F [(5, .int (J (b + 1))), (4, .int (J (w 54 (kH ((q) + (b)))))), (6, .int (J (w 54 (kH ((q) + (b)))))), (0, .ref (ad 8 (0))), (1, .int (J (n))), (2, .int (J (j))), (3, .int (J (q)))] 6 rfl dX8_duel_136 (by decide) rfl ?_
                                  refine g_goto F 77 dX8_duel_139 rfl ?_
                                  refine g_sub [3, 4, 5, 6, 1, 0] (lv' := [(0, .ref (ad 8 (0))), (1, .int (J (n))), (2, .int (J (j))), (3, .int (J (q))), (4, .int (J (w 54 (kH ((q) + (b)))))), (5, .int (J (b + 1)))]) rfl ?_
                                  exact ih77 (w 54 (kH ((q) + (b)))) (b + 1) (by omega) (by omega) (by rw [chN_s _ _ (by omega), ← ha]; first | (rw [if_pos (by omega)]; omega) | (rw [if_neg (by omega)]; omega)) (by omega)
                              · skip
                                refine g_iload F dX8_duel_103 0 rfl ?_
                                refine g_iload F dX8_duel_105 5 rfl ?_
                                refine g_icmp_ge 115 F dX8_duel_107 (by omega) (by omega) rfl (fun c_10 => ?_) (fun c_10 => ?_)
                                · skip
                                  refine g_iload F dX8_duel_115 5 rfl ?_
                                  refine g_goto F 134 dX8_duel_117 rfl ?_
                                  refine g_istore F [(4, .int (J (a))), (6, .int (J (w 54 (kH ((q) + (b)))))), (0, .ref (ad 8 (0))), (1, .int (J (n))), (2, .int (J (j))), (3, .int (J (q))), (5, .int (J (b)))] dX8_duel_134 (by decide) rfl ?_
                                  refine g_iinc F [(5, .int (J (b + 1))), (4, .int (J (a))), (6, .int (J (w 54 (kH ((q) + (b)))))), (0, .ref (ad 8 (0))), (1, .int (J (n))), (2, .int (J (j))), (3, .int (J (q)))] 6 rfl dX8_duel_136 (by decide) rfl ?_
                                  refine g_goto F 77 dX8_duel_139 rfl ?_
                                  refine g_sub [3, 4, 5, 6, 1, 0] (lv' := [(0, .ref (ad 8 (0))), (1, .int (J (n))), (2, .int (J (j))), (3, .int (J (q))), (4, .int (J (a))), (5, .int (J (b + 1)))]) rfl ?_
                                  exact ih77 (a) (b + 1) (by omega) (by omega) (by rw [chN_s _ _ (by omega), ← ha]; first | (rw [if_pos (by omega)]; omega) | (rw [if_neg (by omega)]; omega)) (by omega)
                                · skip
                                  refine g_iload F dX8_duel_110 0 rfl ?_
                                  refine g_goto F 134 dX8_duel_112 rfl ?_
                                  refine g_istore F [(4, .int (J (w 54 (kH ((q) + (b)))))), (6, .int (J (w 54 (kH ((q) + (b)))))), (0, .ref (ad 8 (0))), (1, .int (J (n))), (2, .int (J (j))), (3, .int (J (q))), (5, .int (J (b)))] dX8_duel_134 (by decide) rfl ?_
                                  refine g_iinc F [(5, .int (J (b + 1))), (4, .int (J (w 54 (kH ((q) + (b)))))), (6, .int (J (w 54 (kH ((q) + (b)))))), (0, .ref (ad 8 (0))), (1, .int (J (n))), (2, .int (J (j))), (3, .int (J (q)))] 6 rfl dX8_duel_136 (by decide) rfl ?_
                                  refine g_goto F 77 dX8_duel_139 rfl ?_
                                  refine g_sub [3, 4, 5, 6, 1, 0] (lv' := [(0, .ref (ad 8 (0))), (1, .int (J (n))), (2, .int (J (j))), (3, .int (J (q))), (4, .int (J (w 54 (kH ((q) + (b)))))), (5, .int (J (b + 1)))]) rfl ?_
                                  exact ih77 (w 54 (kH ((q) + (b)))) (b + 1) (by omega) (by omega) (by rw [chN_s _ _ (by omega), ← ha]; first | (rw [if_pos (by omega)]; omega) | (rw [if_neg (by omega)]; omega)) (by omega)
                        refine g_sub [2, 3, 4, 5, 1, 0] (lv' := [(0, .ref (ad 8 (0))), (1, .int (J (n))), (2, .int (J (j))), (3, .int (J (q))), (4, .int (J (w 54 (q)))), (5, .int (J (-3)))]) rfl ?_
                        exact L77 _ (w 54 (q)) (-3) (by omega) (hf q (by omega) (by omega)) (rfl) (Nat.lt_succ_self _)
                  refine g_sub [1, 2, 3, 0] (lv' := [(0, .ref (ad 8 (0))), (1, .int (J (n))), (2, .int (J (j))), (3, .int (J (0)))]) rfl ?_
                  exact gW_eq (L59 _ (0) (by omega) (Nat.lt_succ_self _)) rfl rfl rfl (rfl) ((fdM_0 _ _ _).symm)
            refine g_sub [1, 2, 0] (lv' := [(0, .ref (ad 8 (0))), (1, .int (J (n))), (2, .int (J ((n) - (1))))]) rfl ?_
            exact L53 _ ((fdM y 54 (fun h => foU z h) q)) (n - 1) (by omega) (by have e : q = 31 := (by omega); subst e; exact ⟨ys_fd (ys_rf y) (Or.inl rfl) _ _, fun h h0 h1 => by rw [fdM_in _ _ _ h0 (by omega), show (n - 1 - (n - 1)).toNat = 0 by omega]; rfl⟩) (Nat.lt_succ_self _)
          · skip
            refine g_aload_n F dX8_duel_32 rfl 0 rfl ?_
            refine gg_Model_fouls F fk_X8_56 dX8_duel_33 ?_
            refine g_iload_n F dX8_duel_36 rfl 2 rfl ?_
            refine g_aload_n F dX8_duel_37 rfl 0 rfl ?_
            refine g_iload_n F dX8_duel_38 rfl 2 rfl ?_
            refine g_callV 1 F (As := [.int (J (q))]) (st := [.int (J (q)), .ref (ad 54 (0))]) (c_X8_foulBy l D ad x (fdM y 54 (fun h => foU z h) q) z (q) (hST) (hN) (hB) (by omega)) (gR_8) rfl mk_X8_289 ki_X8_foulBy kc_X8_foulBy (by decide +kernel) rfl (by decide) dX8_duel_39 rfl (Nat.le_of_ble_eq_true rfl) (pI_k ?_)
            refine gs_54 F (by omega) dX8_duel_42 ?_
            refine g_iinc F [(2, .int (J (q + 1))), (0, .ref (ad 8 (0))), (1, .int (J (n)))] 2 rfl dX8_duel_43 (by decide) rfl ?_
            refine g_goto F 26 dX8_duel_46 rfl ?_
            refine g_sub [1, 2, 0] (lv' := [(0, .ref (ad 8 (0))), (1, .int (J (n))), (2, .int (J (q + 1)))]) rfl ?_
            exact gW_eq (ih26 (q + 1) (by omega) (by omega)) rfl rfl rfl (rfl) (fdM_s _ _ _ (by omega))
      refine g_sub [1, 2, 0] (lv' := [(0, .ref (ad 8 (0))), (1, .int (J (n))), (2, .int (J (0)))]) rfl ?_
      exact gW_eq (L26 _ (0) (by omega) (Nat.lt_succ_self _)) rfl rfl rfl (rfl) ((fdM_0 _ _ _).symm)
    · skip
      refine g_bipush F dX8_duel_21 (-4) (by decide) ?_
      exact g_ireturn F hR dX8_duel_23 (pH_z (by unfold sDuel; first | (rw [if_pos (by omega)]; done) | (rw [if_neg (by omega), if_pos (by omega)]; done) | (rw [if_neg (by omega), if_neg (by omega)]; rw [hw.2 _ (by omega) (by omega), show (n - 1 - j).toNat = n.toNat by omega])) (by unfold sDuel; first | (rw [if_pos (by omega)]; exact hRel) | (rw [if_neg (by omega), if_pos (by omega)]; exact hRel) | (rw [if_neg (by omega), if_neg (by omega)]; exact Rel_ys hRel hw.1)) rfl)
  · skip
    refine g_iconst F dX8_duel_12 (-1) (by decide) ?_
    exact g_ireturn F hR dX8_duel_13 (pH_z (by unfold sDuel; first | (rw [if_pos (by omega)]; done) | (rw [if_neg (by omega), if_pos (by omega)]; done) | (rw [if_neg (by omega), if_neg (by omega)]; rw [hw.2 _ (by omega) (by omega), show (n - 1 - j).toNat = n.toNat by omega])) (by unfold sDuel; first | (rw [if_pos (by omega)]; exact hRel) | (rw [if_neg (by omega), if_pos (by omega)]; exact hRel) | (rw [if_neg (by omega), if_neg (by omega)]; exact Rel_ys hRel hw.1)) rfl)
