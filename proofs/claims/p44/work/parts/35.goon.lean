theorem GO_zero {x0 x : gX} {r : Int} {pre : List Int} {b : Int × List Int} {w c h : Int} {P : Int → Bool} {n : Nat} (hr : 0 ≤ r ∧ r < 6) (hS : (pre.length : Int) + ((0 : Nat) : Int) = x0 17 r 0 ∧ x0 17 r 0 ≤ 6) (hp : ∀ j : Int, 0 ≤ j → j < (pre.length : Int) → x 24 0 j = fnL pre j) (hev : evN x0 (fnL pre) pre.length = (w, c, h)) (hw : w < b.1) :
    GO x0 r x (xC (xU x 34 (0) (0) (w)) 20 (r) (0) (x0 17 r 0) (fun q => (xU x 34 (0) (0) (w)) 24 0 (0 + q))) (pre.length : Int) (bst (vlL x0 (x0 17 r 0)) ((lx n 0 P).map (pre ++ ·)) b) := by
  have hN : (x0 17 r 0).toNat = pre.length := by omega
  have hv : vlL x0 (x0 17 r 0) (pre ++ []) = w := by
    unfold vlL
    rw [hN, evN_app, hev]
  have hb : bst (vlL x0 (x0 17 r 0)) ((lx n 0 P).map (pre ++ ·)) b = (w, pre ++ []) := by
    show (if vlL x0 (x0 17 r 0) (pre ++ []) < b.1 then (vlL x0 (x0 17 r 0) (pre ++ []), pre ++ []) else b) = _
    rw [hv, if_pos hw]
  rw [hb]
  refine ⟨fun k i j a q e => ?_, fun j h0 h1 => ?_, ?_, fun _ j h0 h1 => ?_⟩
  · unfold xC
    rw [if_neg (by omega), xU_k e]
  · unfold xC
    rw [if_neg (by omega)]; rfl
  · unfold xC
    rw [if_neg (by omega), xU_same]
  · unfold xC
    rw [if_pos ⟨rfl, rfl, h0, by omega⟩]
    show x 24 0 (0 + (j - 0)) = fnL (pre ++ []) j
    rw [show 0 + (j - 0) = j by omega, fnL_app _ _ h0 (by omega)]
    exact hp j h0 (by omega)
theorem GO_no {x0 x : gX} {r : Int} {pre : List Int} {b : Int × List Int} {w c h : Int} {A : List (List Int)} (hS : (pre.length : Int) ≤ x0 17 r 0) (hev : evN x0 (fnL pre) pre.length = (w, c, h)) (hb : GB x0 r x b) (hw : b.1 ≤ w) : GO x0 r x x (pre.length : Int) (bst (vlL x0 (x0 17 r 0)) (A.map (pre ++ ·)) b) := by
  refine ⟨GF_rf _ _ _, fun _ _ _ => rfl, ?_⟩
  rw [bst_no]
  · exact hb
  · intro s hs
    obtain ⟨t, -, rfl⟩ := List.mem_map.mp hs
    exact Int.le_trans hw (vlL_ge pre t hS hev)
theorem GO_skip {x0 x u : gX} {r j : Int} {pre : List Int} {b : Int × List Int} {v : List Int → Int} {n k : Nat} {P : Int → Bool} {d : Int} (hu : GO x0 r x u d (bst v ((lxC n k P j).map (pre ++ ·)) b)) (h0 : 0 ≤ j) (hP : ¬ P j = true) : GO x0 r x u d (bst v ((lxC n k P (j + 1)).map (pre ++ ·)) b) := by
  rw [lxC_s h0, if_neg hP, List.append_nil]
  exact hu
theorem GO_step {x0 x u u' : gX} {r j : Int} {pre : List Int} {b : Int × List Int} {v : List Int → Int} {n k : Nat} {P : Int → Bool} (hu : GO x0 r x u (pre.length : Int) (bst v ((lxC n k P j).map (pre ++ ·)) b)) (h0 : 0 ≤ j) (hP : P j = true)
    (hg : GO x0 r (xU u 24 (0) ((pre.length : Int)) (j)) u' ((pre ++ [j]).length : Int) (bst v ((lx n k (Pm P j)).map ((pre ++ [j]) ++ ·)) (bst v ((lxC n k P j).map (pre ++ ·)) b))) : GO x0 r x u' (pre.length : Int) (bst v ((lxC n k P (j + 1)).map (pre ++ ·)) b) := by
  refine ⟨GF_tr hu.1 (GF_tr (GF_24 x0 r u _ _) hg.1), fun q q0 q1 => ?_, ?_⟩
  · rw [hg.2.1 q q0 (by rw [List.length_append]; omega), xU_j (by omega)]
    exact hu.2.1 q q0 q1
  · rw [lxC_s h0, if_pos hP, List.map_append, bst_app, map_pre]
    exact hg.2.2
theorem path_s {x u : gX} {pre : List Int} {j q : Int} (h1 : ∀ q : Int, 0 ≤ q → q < (pre.length : Int) → u 24 0 q = x 24 0 q) (hp : ∀ q : Int, 0 ≤ q → q < (pre.length : Int) → x 24 0 q = fnL pre q) (h0 : 0 ≤ q) (hq : q < ((pre ++ [j]).length : Int)) : xU u 24 (0) ((pre.length : Int)) (j) 24 0 q = fnL (pre ++ [j]) q := by
  rw [List.length_append] at hq
  have hq' : q < (pre.length : Int) + 1 := by have e : ([j] : List Int).length = 1 := rfl; rw [e] at hq; omega
  rcases (show q < pre.length ∨ q = pre.length by omega) with e | e
  · rw [xU_j (by omega), h1 q h0 e, hp q h0 e, fnL_app _ _ h0 e]
  · rw [e, xU_same, fnL_at]
theorem len_s (pre : List Int) (j : Int) : ((pre ++ [j]).length : Int) = (pre.length : Int) + 1 := by rw [List.length_append]; rfl
set_option maxRecDepth 20000 in
theorem c_goOn0 (l : Launch) (D : gD) (ad : gA) (x : gX) (y : gY) (x0 : gX) (r : Int) (P : Int → Bool) (w c h : Int) (pre : List Int) (b : Int × List Int) (hr : 0 ≤ r ∧ r < 6) (hN : NOK x0) (hE : ∀ q : Int, q ≤ 17 → x q = x0 q) (hS : ((pre).length : Int) + ((0 : Nat) : Int) = x0 17 r 0 ∧ x0 17 r 0 ≤ 6) (hk : sumZ (fun i => if P i = true then 1 else 0) (x0 10 0 0) = ((0 : Nat) : Int)) (hp : ∀ j : Int, 0 ≤ j → j < ((pre).length : Int) → x 24 0 j = fnL pre j) (hev : evN x0 (fnL pre) (pre).length = (w, c, h)) (hb : GB x0 r x b) (hbr : 0 ≤ (b).1 ∧ (b).1 ≤ 7) : gC l D ad (4 + (0)) yX4_goOn cX4_goOn 13 none [.ref (ad 4 (0)), .ref (ad 0 (0)), .ref (ad 6 (r)), .int (J (bitsZ (fun i => P i = true) (x0 10 0 0))), .int (J (w)), .int (J (c)), .int (J (h))] x y (pN (fun u => GO x0 r x u ((pre).length : Int) (bst (vlL x0 (x0 17 r 0)) ((lx (x0 10 0 0).toNat (0) P).map (pre ++ ·)) b)) (y)) := by
  refine g_met RX4 rfl (by decide +kernel) [(0, .ref (ad 4 (0))), (1, .ref (ad 0 (0))), (2, .ref (ad 6 (r))), (3, .int (J (bitsZ (fun i => P i = true) (x0 10 0 0)))), (4, .int (J (w))), (5, .int (J (c))), (6, .int (J (h)))] rfl (Nat.le_of_ble_eq_true rfl) (fun Θ F hR => ?_)
  have hr3 : (0 ≤ w ∧ w ≤ (pre.length : Int)) ∧ (0 ≤ c ∧ c ≤ 6 + (pre.length : Int)) ∧ 0 ≤ h ∧ h ≤ 30 := by have q := evN_r hN (fnL pre) pre.length; rw [hev] at q; exact q
  have hlf : 0 ≤ bitsZ (fun i => P i = true) (x0 10 0 0) ∧ bitsZ (fun i => P i = true) (x0 10 0 0) < p2 (x0 10 0 0) := bitZ_r hN.2.1.1
  have h64 := p2_mono hN.2.1.2
  have h64b : p2 6 = 64 := by decide +kernel
  have h10 := hN.2.1
  have hcb := cnt_bits (P := fun i => P i = true) hN.2.1.1
  refine g_iload F dX4_goOn_0 4 rfl ?_
  refine g_aload_n F dX4_goOn_2 rfl 0 rfl ?_
  refine gg_Orders_fewest F fk_X4_37 dX4_goOn_3 ?_
  refine g_topi (b := b.1) (hb.1) ?_
  refine g_icmp_lt 10 F dX4_goOn_6 (by omega) (by omega) rfl (fun c_1 => ?_) (fun c_1 => ?_)
  · skip
    have hlt := c_1
    refine g_iload_n F dX4_goOn_10 rfl 3 rfl ?_
    refine g_if_ne 38 F dX4_goOn_11 (by omega) rfl (fun c_2 => ?_) (fun c_2 => ?_)
    · skip
      exfalso; omega
    · skip
      refine g_aload_n F dX4_goOn_14 rfl 0 rfl ?_
      refine g_iload F dX4_goOn_15 4 rfl ?_
      refine gp_Orders_fewest F fk_X4_37 dX4_goOn_17 ?_
      refine g_aload_n F dX4_goOn_20 rfl 0 rfl ?_
      refine gg_Orders_path F fk_X4_9 dX4_goOn_21 ?_
      refine g_iconst F dX4_goOn_24 (0) (by decide) ?_
      refine g_aload_n F dX4_goOn_25 rfl 2 rfl ?_
      refine ggN_Row_places F (by omega) fk_X4_50 dX4_goOn_26 ?_
      refine g_iconst F dX4_goOn_29 (0) (by decide) ?_
      refine g_aload_n F dX4_goOn_30 rfl 2 rfl ?_
      refine ggN_Row_size F (by omega) fk_X4_53 dX4_goOn_31 ?_
      refine g_topi (b := x 17 (r) (0)) (by simp [xU]) ?_
      refine g_topi (b := x0 17 r 0) (by rw [hE 17 (by decide)]) ?_
      refine g_copyPath (i0 := 0) F (by omega) mk_X4_54 (by omega) (by omega) (by omega) (by omega) (by omega) (by omega) dX4_goOn_34 (Nat.le_of_ble_eq_true rfl) ?_
      exact g_vreturn F hR dX4_goOn_37 (pN_i (by exact GO_zero hr hS hp hev (by omega)) rfl)
  · skip
    exact g_vreturn F hR dX4_goOn_9 (pN_i (by exact GO_no (by omega) hev hb (by omega)) rfl)

set_option maxRecDepth 20000 in
theorem c_goOnS (k : Nat) (ih : ∀ (l : Launch) (D : gD) (ad : gA) (x : gX) (y : gY) (x0 : gX) (r : Int) (P : Int → Bool) (w c h : Int) (pre : List Int) (b : Int × List Int) (hr : 0 ≤ r ∧ r < 6) (hN : NOK x0) (hE : ∀ q : Int, q ≤ 17 → x q = x0 q) (hS : ((pre).length : Int) + ((k : Nat) : Int) = x0 17 r 0 ∧ x0 17 r 0 ≤ 6) (hk : sumZ (fun i => if P i = true then 1 else 0) (x0 10 0 0) = ((k : Nat) : Int)) (hp : ∀ j : Int, 0 ≤ j → j < ((pre).length : Int) → x 24 0 j = fnL pre j) (hev : evN x0 (fnL pre) (pre).length = (w, c, h)) (hb : GB x0 r x b) (hbr : 0 ≤ (b).1 ∧ (b).1 ≤ 7), gC l D ad (4 + (k)) yX4_goOn cX4_goOn 13 none [.ref (ad 4 (0)), .ref (ad 0 (0)), .ref (ad 6 (r)), .int (J (bitsZ (fun i => P i = true) (x0 10 0 0))), .int (J (w)), .int (J (c)), .int (J (h))] x y (pN (fun u => GO x0 r x u ((pre).length : Int) (bst (vlL x0 (x0 17 r 0)) ((lx (x0 10 0 0).toNat (k) P).map (pre ++ ·)) b)) (y))) (l : Launch) (D : gD) (ad : gA) (x : gX) (y : gY) (x0 : gX) (r : Int) (P : Int → Bool) (w c h : Int) (pre : List Int) (b : Int × List Int) (hr : 0 ≤ r ∧ r < 6) (hN : NOK x0) (hE : ∀ q : Int, q ≤ 17 → x q = x0 q) (hS : ((pre).length : Int) + ((k + 1 : Nat) : Int) = x0 17 r 0 ∧ x0 17 r 0 ≤ 6) (hk : sumZ (fun i => if P i = true then 1 else 0) (x0 10 0 0) = ((k + 1 : Nat) : Int)) (hp : ∀ j : Int, 0 ≤ j → j < ((pre).length : Int) → x 24 0 j = fnL pre j) (hev : evN x0 (fnL pre) (pre).length = (w, c, h)) (hb : GB x0 r x b) (hbr : 0 ≤ (b).1 ∧ (b).1 ≤ 7) : gC l D ad (4 + (k + 1)) yX4_goOn cX4_goOn 13 none [.ref (ad 4 (0)), .ref (ad 0 (0)), .ref (ad 6 (r)), .int (J (bitsZ (fun i => P i = true) (x0 10 0 0))), .int (J (w)), .int (J (c)), .int (J (h))] x y (pN (fun u => GO x0 r x u ((pre).length : Int) (bst (vlL x0 (x0 17 r 0)) ((lx (x0 10 0 0).toNat (k + 1) P).map (pre ++ ·)) b)) (y)) := by
  refine g_met RX4 rfl (by decide +kernel) [(0, .ref (ad 4 (0))), (1, .ref (ad 0 (0))), (2, .ref (ad 6 (r))), (3, .int (J (bitsZ (fun i => P i = true) (x0 10 0 0)))), (4, .int (J (w))), (5, .int (J (c))), (6, .int (J (h)))] rfl (Nat.le_of_ble_eq_true rfl) (fun Θ F hR => ?_)
  have hr3 : (0 ≤ w ∧ w ≤ (pre.length : Int)) ∧ (0 ≤ c ∧ c ≤ 6 + (pre.length : Int)) ∧ 0 ≤ h ∧ h ≤ 30 := by have q := evN_r hN (fnL pre) pre.length; rw [hev] at q; exact q
  have hlf : 0 ≤ bitsZ (fun i => P i = true) (x0 10 0 0) ∧ bitsZ (fun i => P i = true) (x0 10 0 0) < p2 (x0 10 0 0) := bitZ_r hN.2.1.1
  have h64 := p2_mono hN.2.1.2
  have h64b : p2 6 = 64 := by decide +kernel
  have h10 := hN.2.1
  have hcb := cnt_bits (P := fun i => P i = true) hN.2.1.1
  refine g_iload F dX4_goOn_0 4 rfl ?_
  refine g_aload_n F dX4_goOn_2 rfl 0 rfl ?_
  refine gg_Orders_fewest F fk_X4_37 dX4_goOn_3 ?_
  refine g_topi (b := b.1) (hb.1) ?_
  refine g_icmp_lt 10 F dX4_goOn_6 (by omega) (by omega) rfl (fun c_1 => ?_) (fun c_1 => ?_)
  · skip
    refine g_iload_n F dX4_goOn_10 rfl 3 rfl ?_
    refine g_if_ne 38 F dX4_goOn_11 (by omega) rfl (fun c_2 => ?_) (fun c_2 => ?_)
    · skip
      refine g_aload_n F dX4_goOn_38 rfl 2 rfl ?_
      refine ggN_Row_size F (by omega) fk_X4_53 dX4_goOn_39 ?_
      refine g_topi (b := x0 17 r 0) (by rw [hE 17 (by decide)]) ?_
      refine g_iload_n F dX4_goOn_42 rfl 3 rfl ?_
      refine g_callS 1 F (As := [.int (J (bitsZ (fun i => P i = true) (x0 10 0 0)))]) (st := [.int (J (x0 17 r 0))]) (c_bitc l D ad x y (bitsZ (fun i => P i = true) (x0 10 0 0)) (by omega)) rfl mk_X4_25 ki_J6_bitCount_0f7a4 kc_J6_bitCount_0f7a4 (by decide +kernel) rfl (by omega) dX4_goOn_43 rfl (Nat.le_of_ble_eq_true rfl) (pI_k ?_)
      refine g_isub F dX4_goOn_46 ?_
      refine g_topi (b := ((pre).length : Int)) (by rw [pc_n hN.2.1.1 (by omega), hk]; omega) ?_
      refine g_istore F [(7, .int (J (((pre).length : Int)))), (0, .ref (ad 4 (0))), (1, .ref (ad 0 (0))), (2, .ref (ad 6 (r))), (3, .int (J (bitsZ (fun i => P i = true) (x0 10 0 0)))), (4, .int (J (w))), (5, .int (J (c))), (6, .int (J (h)))] dX4_goOn_47 (by decide) rfl ?_
      refine g_iconst F dX4_goOn_49 (0) (by decide) ?_
      refine g_istore F [(8, .int (J (0))), (7, .int (J (((pre).length : Int)))), (0, .ref (ad 4 (0))), (1, .ref (ad 0 (0))), (2, .ref (ad 6 (r))), (3, .int (J (bitsZ (fun i => P i = true) (x0 10 0 0)))), (4, .int (J (w))), (5, .int (J (c))), (6, .int (J (h)))] dX4_goOn_50 (by decide) rfl ?_
      have L52 : ∀ (N : Nat) (u : gX) (j : Int), 0 ≤ j ∧ j ≤ x0 10 0 0 → GO x0 r x u ((pre).length : Int) (bst (vlL x0 (x0 17 r 0)) ((lxC (x0 10 0 0).toNat k P j).map (pre ++ ·)) b) → (x0 10 0 0 - j).toNat < N → gW Θ l D ad 13 52 [(0, .ref (ad 4 (0))), (1, .ref (ad 0 (0))), (2, .ref (ad 6 (r))), (3, .int (J (bitsZ (fun i => P i = true) (x0 10 0 0)))), (4, .int (J (w))), (5, .int (J (c))), (6, .int (J (h))), (7, .int (J (((pre).length : Int)))), (8, .int (J (j)))] [] u y := by
        intro N
        induction N with
        | zero => intro u j hj hu hFu; omega
        | succ N ih52 =>
          intro u j hj hu hFu
          have hEu : ∀ q : Int, q ≤ 17 → u q = x0 q := fun q hq => GF_E hu.1 hE q hq
          have hNu : NOK u := NOK_k (fun q hq => hEu q (by omega)) hN
          have hBr : 0 ≤ (bst (vlL x0 (x0 17 r 0)) ((lxC (x0 10 0 0).toNat k P j).map (pre ++ ·)) b).1 ∧ (bst (vlL x0 (x0 17 r 0)) ((lxC (x0 10 0 0).toNat k P j).map (pre ++ ·)) b).1 ≤ 7 := ⟨bst_r _ (fun s => (vlL_0 hN _ s).1) _ _ hbr.1, Int.le_trans (bst_le _ _ _) hbr.2⟩
          have e10 : u 10 0 0 = x0 10 0 0 := by rw [hEu 10 (by decide)]
          have e14 : u 14 0 0 = x0 14 0 0 := by rw [hEu 14 (by decide)]
          have e2 : u 2 j 0 = x0 2 j 0 := by rw [hEu 2 (by decide)]
          refine g_iload F dX4_goOn_52 8 rfl ?_
          refine g_aload_n F dX4_goOn_54 rfl 1 rfl ?_
          refine ggN_Court_size F fk_X4_15 dX4_goOn_55 ?_
          refine g_topi (b := x0 10 0 0) (e10) ?_
          refine g_icmp_ge 170 F dX4_goOn_58 (by omega) (by omega) rfl (fun c_3 => ?_) (fun c_3 => ?_)
          · skip
            exact g_vreturn F hR dX4_goOn_170 (pN_i (by rw [lx_k, show (((x0 10 0 0).toNat : Nat) : Int) = j by omega]; exact hu) rfl)
          · skip
            have hp2 := p2_pos j
            have hp2b := p2_le30 (i := j) (by omega)
            refine g_iload_n F dX4_goOn_61 rfl 3 rfl ?_
            refine g_iconst F dX4_goOn_62 (1) (by decide) ?_
            refine g_iload F dX4_goOn_63 8 rfl ?_
            refine g_ishl F dX4_goOn_65 (p2 (j)) (J_shl (by omega)) ?_
            refine g_iand F dX4_goOn_66 (if P j = true then p2 (j) else 0) (bits_ask (by omega) (by omega)) ?_
            refine g_if_eq 164 F dX4_goOn_67 (by split <;> omega) rfl (fun c_4 => ?_) (fun c_4 => ?_)
            · skip
              have hPj : ¬ P j = true := fun q => by rw [if_pos q] at c_4; omega
              refine g_iinc F [(8, .int (J (j + 1))), (0, .ref (ad 4 (0))), (1, .ref (ad 0 (0))), (2, .ref (ad 6 (r))), (3, .int (J (bitsZ (fun i => P i = true) (x0 10 0 0)))), (4, .int (J (w))), (5, .int (J (c))), (6, .int (J (h))), (7, .int (J (((pre).length : Int))))] 8 rfl dX4_goOn_164 (by decide) rfl ?_
              refine g_goto F 52 dX4_goOn_167 rfl ?_
              refine g_sub [1, 2, 3, 4, 5, 6, 7, 8, 0] (lv' := [(0, .ref (ad 4 (0))), (1, .ref (ad 0 (0))), (2, .ref (ad 6 (r))), (3, .int (J (bitsZ (fun i => P i = true) (x0 10 0 0)))), (4, .int (J (w))), (5, .int (J (c))), (6, .int (J (h))), (7, .int (J (((pre).length : Int)))), (8, .int (J (j + 1)))]) rfl ?_
              exact ih52 (u) (j + 1) (by omega) (by first | exact GO_skip hu hj.1 hPj | exact GO_step hu hj.1 hPj hG_161) (by omega)
            · skip
              have hPj : P j = true := Decidable.byContradiction (fun q => c_4 (if_neg q))
              have hm := hNu.2.2.2 j (by omega) (by omega)
              have hv := vU_r x0 j h
              refine g_aload_n F dX4_goOn_70 rfl 1 rfl ?_
              refine ggN_Court_men F fk_X4_60 dX4_goOn_71 ?_
              refine g_iload F dX4_goOn_74 8 rfl ?_
              refine ga_32 F (by omega) dX4_goOn_76 ?_
              refine g_astore F [(9, .ref (ad 3 (j))), (0, .ref (ad 4 (0))), (1, .ref (ad 0 (0))), (2, .ref (ad 6 (r))), (3, .int (J (bitsZ (fun i => P i = true) (x0 10 0 0)))), (4, .int (J (w))), (5, .int (J (c))), (6, .int (J (h))), (7, .int (J (((pre).length : Int)))), (8, .int (J (j)))] dX4_goOn_77 (by decide) rfl ?_
              refine g_aload_n F dX4_goOn_79 rfl 2 rfl ?_
              refine g_aload F dX4_goOn_80 0 rfl ?_
              refine g_iload F dX4_goOn_82 7 rfl ?_
              refine g_callV 2 F (As := [.ref (ad 3 (j)), .int (J (h))]) (st := []) (c_X0_verdict l D ad u y (j) (h) (by omega) (hNu.1) (hm) (by omega)) (gR_0) rfl mk_X4_64 ki_X0_verdict kc_X0_verdict (by decide +kernel) rfl (by omega) dX4_goOn_84 rfl (Nat.le_of_ble_eq_true rfl) (pI_k ?_)
              refine g_topi (b := vU x0 j h) (vU_k (fun q hq => hEu q (by omega)) j h) ?_
              refine g_istore F [(10, .int (J (vU x0 j h))), (9, .ref (ad 3 (j))), (0, .ref (ad 4 (0))), (1, .ref (ad 0 (0))), (2, .ref (ad 6 (r))), (3, .int (J (bitsZ (fun i => P i = true) (x0 10 0 0)))), (4, .int (J (w))), (5, .int (J (c))), (6, .int (J (h))), (7, .int (J (((pre).length : Int)))), (8, .int (J (j)))] dX4_goOn_87 (by decide) rfl ?_
              refine g_aload F dX4_goOn_89 1 rfl ?_
              refine g_iload F dX4_goOn_91 0 rfl ?_
              refine g_callV 1 F (As := [.int (J (vU x0 j h))]) (st := []) (c_X3_wrongedBy l D ad u y (j) (vU x0 j h) (by omega) (hm) (by omega)) (gR_3 (by omega)) rfl mk_X4_68 ki_X3_wrongedBy kc_X3_wrongedBy (by decide +kernel) rfl (by omega) dX4_goOn_93 rfl (Nat.le_of_ble_eq_true rfl) (pB_k ?_)
              refine g_ifb_eq 106 F dX4_goOn_96 rfl (fun c_5 => ?_) (fun c_5 => ?_)
              · skip
                have hwq : w + (if sWr (x0 2 j 0) (vU x0 j h) then 1 else 0) = w := by rw [if_neg (by omega), Int.add_zero]
                refine g_iload F dX4_goOn_106 6 rfl ?_
                refine g_istore F [(11, .int (J (w))), (10, .int (J (vU x0 j h))), (9, .ref (ad 3 (j))), (0, .ref (ad 4 (0))), (1, .ref (ad 0 (0))), (2, .ref (ad 6 (r))), (3, .int (J (bitsZ (fun i => P i = true) (x0 10 0 0)))), (4, .int (J (w))), (5, .int (J (c))), (6, .int (J (h))), (7, .int (J (((pre).length : Int)))), (8, .int (J (j)))] dX4_goOn_108 (by decide) rfl ?_
                refine g_iload F dX4_goOn_110 1 rfl ?_
                refine g_iconst F dX4_goOn_112 (1) (by decide) ?_
                refine g_icmp_ne 123 F dX4_goOn_113 (by omega) (by decide) rfl (fun c_6 => ?_) (fun c_6 => ?_)
                · skip
                  have hcq : c + (if vU x0 j h = 1 then 1 else 0) = c := by rw [if_neg (by omega), Int.add_zero]
                  refine g_iload F dX4_goOn_123 8 rfl ?_
                  refine g_istore F [(12, .int (J (c))), (11, .int (J (w))), (10, .int (J (vU x0 j h))), (9, .ref (ad 3 (j))), (0, .ref (ad 4 (0))), (1, .ref (ad 0 (0))), (2, .ref (ad 6 (r))), (3, .int (J (bitsZ (fun i => P i = true) (x0 10 0 0)))), (4, .int (J (w))), (5, .int (J (c))), (6, .int (J (h))), (7, .int (J (((pre).length : Int)))), (8, .int (J (j)))] dX4_goOn_125 (by decide) rfl ?_
                  refine g_aload_n F dX4_goOn_127 rfl 4 rfl ?_
                  refine gg_Orders_path F fk_X4_9 dX4_goOn_128 ?_
                  refine g_iload F dX4_goOn_131 11 rfl ?_
                  refine g_iload F dX4_goOn_133 12 rfl ?_
                  refine gs_24 F (by omega) dX4_goOn_135 ?_
                  refine g_aload_n F dX4_goOn_136 rfl 4 rfl ?_
                  refine g_aload_n F dX4_goOn_137 rfl 5 rfl ?_
                  refine g_aload_n F dX4_goOn_138 rfl 6 rfl ?_
                  refine g_iload_n F dX4_goOn_139 rfl 7 rfl ?_
                  refine g_iconst F dX4_goOn_140 (1) (by decide) ?_
                  refine g_iload F dX4_goOn_141 12 rfl ?_
                  refine g_ishl F dX4_goOn_143 (p2 (j)) (J_shl (by omega)) ?_
                  refine g_iconst F dX4_goOn_144 (-1) (by decide) ?_
                  refine g_ixor F dX4_goOn_145 (-(p2 (j)) - 1) (notJ _) ?_
                  refine g_iand F dX4_goOn_146 (bitsZ (fun i => (Pm P j) i = true) (x0 10 0 0)) ((bits_off (P := fun q => P q = true) (by omega) (by omega)).trans (by rw [Pm_bits])) ?_
                  refine g_iload F dX4_goOn_147 1 rfl ?_
                  refine g_iload F dX4_goOn_149 0 rfl ?_
                  refine g_aload_n F dX4_goOn_151 rfl 5 rfl ?_
                  refine g_iload F dX4_goOn_152 2 rfl ?_
                  refine g_iload F dX4_goOn_154 0 rfl ?_
                  refine g_iload F dX4_goOn_156 10 rfl ?_
                  refine g_callV 3 F (As := [.int (J (vU x0 j h)), .int (J (c)), .int (J (h))]) (st := [.int (J (c)), .int (J (w)), .int (J (bitsZ (fun i => (Pm P j) i = true) (x0 10 0 0))), .ref (ad 6 (r)), .ref (ad 0 (0)), .ref (ad 4 (0))]) (c_X0_heatBehind l D ad (xU u 24 (0) (((pre).length : Int)) (j)) y (vU x0 j h) (c) (h) (hNu.1) (by omega) (by omega) (by omega)) (gR_0) rfl mk_X4_74 ki_X0_heatBehind kc_X0_heatBehind (by decide +kernel) rfl (by omega) dX4_goOn_158 rfl (Nat.le_of_ble_eq_true rfl) (pI_k ?_)
                  refine g_topi (b := sBeh (x0 14 0 0) (vU x0 j h) (c) (h)) (by show sBeh (u 14 0 0) _ _ _ = _; rw [e14]) ?_
                  refine g_callV 6 F (As := [.ref (ad 0 (0)), .ref (ad 6 (r)), .int (J (bitsZ (fun i => (Pm P j) i = true) (x0 10 0 0))), .int (J (w)), .int (J (c)), .int (J (sBeh (x0 14 0 0) (vU x0 j h) (c) (h)))]) (st := []) (ih l D ad (xU u 24 (0) (((pre).length : Int)) (j)) y (x0) (r) (Pm P j) (w) (c) (sBeh (x0 14 0 0) (vU x0 j h) (c) (h)) (pre ++ [j]) ((bst (vlL x0 (x0 17 r 0)) ((lxC (x0 10 0 0).toNat k P j).map (pre ++ ·)) b)) (hr) (hN) (fun q hq => by rw [xU_k (by omega)]; exact hEu q hq) (by rw [len_s]; omega) (Pm_cz hPj hj.1 (by omega) hk) (fun q q0 q1 => path_s hu.2.1 hp q0 q1) (by rw [evN_one, hev]; show (w + (if sWr (x0 2 j 0) (vU x0 j h) then 1 else 0), c + (if vU x0 j h = 1 then 1 else 0), sBeh (x0 14 0 0) (vU x0 j h) (c + (if vU x0 j h = 1 then 1 else 0)) h) = _; rw [hwq, hcq]) (hu.2.2) (hBr)) (gR_4) rfl mk_X4_46 ki_X4_goOn kc_X4_goOn (by decide +kernel) rfl (by omega) dX4_goOn_161 rfl (Nat.le_of_ble_eq_true rfl) (pN_k (fun u_161 hG_161 => ?_))
                  refine g_iinc F [(8, .int (J (j + 1))), (12, .int (J (c))), (11, .int (J (w))), (10, .int (J (vU x0 j h))), (9, .ref (ad 3 (j))), (0, .ref (ad 4 (0))), (1, .ref (ad 0 (0))), (2, .ref (ad 6 (r))), (3, .int (J (bitsZ (fun i => P i = true) (x0 10 0 0)))), (4, .int (J (w))), (5, .int (J (c))), (6, .int (J (h))), (7, .int (J (((pre).length : Int))))] 12 rfl dX4_goOn_164 (by decide) rfl ?_
                  refine g_goto F 52 dX4_goOn_167 rfl ?_
                  refine g_sub [5, 6, 7, 8, 9, 10, 11, 12, 0] (lv' := [(0, .ref (ad 4 (0))), (1, .ref (ad 0 (0))), (2, .ref (ad 6 (r))), (3, .int (J (bitsZ (fun i => P i = true) (x0 10 0 0)))), (4, .int (J (w))), (5, .int (J (c))), (6, .int (J (h))), (7, .int (J (((pre).length : Int)))), (8, .int (J (j + 1)))]) rfl ?_
                  exact ih52 (u_161) (j + 1) (by omega) (by first | exact GO_skip hu hj.1 hPj | exact GO_step hu hj.1 hPj hG_161) (by omega)
                · skip
                  have hcq : c + (if vU x0 j h = 1 then 1 else 0) = c + 1 := by rw [if_pos (by omega)]
                  refine g_iload F dX4_goOn_116 8 rfl ?_
                  refine g_iconst F dX4_goOn_118 (1) (by decide) ?_
                  refine g_iadd F dX4_goOn_119 ?_
                  refine g_goto F 125 dX4_goOn_120 rfl ?_
                  refine g_istore F [(12, .int (J ((c) + (1)))), (11, .int (J (w))), (10, .int (J (vU x0 j h))), (9, .ref (ad 3 (j))), (0, .ref (ad 4 (0))), (1, .ref (ad 0 (0))), (2, .ref (ad 6 (r))), (3, .int (J (bitsZ (fun i => P i = true) (x0 10 0 0)))), (4, .int (J (w))), (5, .int (J (c))), (6, .int (J (h))), (7, .int (J (((pre).length : Int)))), (8, .int (J (j)))] dX4_goOn_125 (by decide) rfl ?_
                  refine g_aload_n F dX4_goOn_127 rfl 4 rfl ?_
                  refine gg_Orders_path F fk_X4_9 dX4_goOn_128 ?_
                  refine g_iload F dX4_goOn_131 11 rfl ?_
                  refine g_iload F dX4_goOn_133 12 rfl ?_
                  refine gs_24 F (by omega) dX4_goOn_135 ?_
                  refine g_aload_n F dX4_goOn_136 rfl 4 rfl ?_
                  refine g_aload_n F dX4_goOn_137 rfl 5 rfl ?_
                  refine g_aload_n F dX4_goOn_138 rfl 6 rfl ?_
                  refine g_iload_n F dX4_goOn_139 rfl 7 rfl ?_
                  refine g_iconst F dX4_goOn_140 (1) (by decide) ?_
                  refine g_iload F dX4_goOn_141 12 rfl ?_
                  refine g_ishl F dX4_goOn_143 (p2 (j)) (J_shl (by omega)) ?_
                  refine g_iconst F dX4_goOn_144 (-1) (by decide) ?_
                  refine g_ixor F dX4_goOn_145 (-(p2 (j)) - 1) (notJ _) ?_
                  refine g_iand F dX4_goOn_146 (bitsZ (fun i => (Pm P j) i = true) (x0 10 0 0)) ((bits_off (P := fun q => P q = true) (by omega) (by omega)).trans (by rw [Pm_bits])) ?_
                  refine g_iload F dX4_goOn_147 1 rfl ?_
                  refine g_iload F dX4_goOn_149 0 rfl ?_
                  refine g_aload_n F dX4_goOn_151 rfl 5 rfl ?_
                  refine g_iload F dX4_goOn_152 2 rfl ?_
                  refine g_iload F dX4_goOn_154 0 rfl ?_
                  refine g_iload F dX4_goOn_156 10 rfl ?_
                  refine g_callV 3 F (As := [.int (J (vU x0 j h)), .int (J ((c) + (1))), .int (J (h))]) (st := [.int (J ((c) + (1))), .int (J (w)), .int (J (bitsZ (fun i => (Pm P j) i = true) (x0 10 0 0))), .ref (ad 6 (r)), .ref (ad 0 (0)), .ref (ad 4 (0))]) (c_X0_heatBehind l D ad (xU u 24 (0) (((pre).length : Int)) (j)) y (vU x0 j h) ((c) + (1)) (h) (hNu.1) (by omega) (by omega) (by omega)) (gR_0) rfl mk_X4_74 ki_X0_heatBehind kc_X0_heatBehind (by decide +kernel) rfl (by omega) dX4_goOn_158 rfl (Nat.le_of_ble_eq_true rfl) (pI_k ?_)
                  refine g_topi (b := sBeh (x0 14 0 0) (vU x0 j h) ((c) + (1)) (h)) (by show sBeh (u 14 0 0) _ _ _ = _; rw [e14]) ?_
                  refine g_callV 6 F (As := [.ref (ad 0 (0)), .ref (ad 6 (r)), .int (J (bitsZ (fun i => (Pm P j) i = true) (x0 10 0 0))), .int (J (w)), .int (J ((c) + (1))), .int (J (sBeh (x0 14 0 0) (vU x0 j h) ((c) + (1)) (h)))]) (st := []) (ih l D ad (xU u 24 (0) (((pre).length : Int)) (j)) y (x0) (r) (Pm P j) (w) ((c) + (1)) (sBeh (x0 14 0 0) (vU x0 j h) ((c) + (1)) (h)) (pre ++ [j]) ((bst (vlL x0 (x0 17 r 0)) ((lxC (x0 10 0 0).toNat k P j).map (pre ++ ·)) b)) (hr) (hN) (fun q hq => by rw [xU_k (by omega)]; exact hEu q hq) (by rw [len_s]; omega) (Pm_cz hPj hj.1 (by omega) hk) (fun q q0 q1 => path_s hu.2.1 hp q0 q1) (by rw [evN_one, hev]; show (w + (if sWr (x0 2 j 0) (vU x0 j h) then 1 else 0), c + (if vU x0 j h = 1 then 1 else 0), sBeh (x0 14 0 0) (vU x0 j h) (c + (if vU x0 j h = 1 then 1 else 0)) h) = _; rw [hwq, hcq]) (hu.2.2) (hBr)) (gR_4) rfl mk_X4_46 ki_X4_goOn kc_X4_goOn (by decide +kernel) rfl (by omega) dX4_goOn_161 rfl (Nat.le_of_ble_eq_true rfl) (pN_k (fun u_161 hG_161 => ?_))
                  refine g_iinc F [(8, .int (J (j + 1))), (12, .int (J ((c) + (1)))), (11, .int (J (w))), (10, .int (J (vU x0 j h))), (9, .ref (ad 3 (j))), (0, .ref (ad 4 (0))), (1, .ref (ad 0 (0))), (2, .ref (ad 6 (r))), (3, .int (J (bitsZ (fun i => P i = true) (x0 10 0 0)))), (4, .int (J (w))), (5, .int (J (c))), (6, .int (J (h))), (7, .int (J (((pre).length : Int))))] 12 rfl dX4_goOn_164 (by decide) rfl ?_
                  refine g_goto F 52 dX4_goOn_167 rfl ?_
                  refine g_sub [5, 6, 7, 8, 9, 10, 11, 12, 0] (lv' := [(0, .ref (ad 4 (0))), (1, .ref (ad 0 (0))), (2, .ref (ad 6 (r))), (3, .int (J (bitsZ (fun i => P i = true) (x0 10 0 0)))), (4, .int (J (w))), (5, .int (J (c))), (6, .int (J (h))), (7, .int (J (((pre).length : Int)))), (8, .int (J (j + 1)))]) rfl ?_
                  exact ih52 (u_161) (j + 1) (by omega) (by first | exact GO_skip hu hj.1 hPj | exact GO_step hu hj.1 hPj hG_161) (by omega)
              · skip
                have hwq : w + (if sWr (x0 2 j 0) (vU x0 j h) then 1 else 0) = w + 1 := by rw [if_pos (by omega)]
                refine g_iload F dX4_goOn_99 6 rfl ?_
                refine g_iconst F dX4_goOn_101 (1) (by decide) ?_
                refine g_iadd F dX4_goOn_102 ?_
                refine g_goto F 108 dX4_goOn_103 rfl ?_
                refine g_istore F [(11, .int (J ((w) + (1)))), (10, .int (J (vU x0 j h))), (9, .ref (ad 3 (j))), (0, .ref (ad 4 (0))), (1, .ref (ad 0 (0))), (2, .ref (ad 6 (r))), (3, .int (J (bitsZ (fun i => P i = true) (x0 10 0 0)))), (4, .int (J (w))), (5, .int (J (c))), (6, .int (J (h))), (7, .int (J (((pre).length : Int)))), (8, .int (J (j)))] dX4_goOn_108 (by decide) rfl ?_
                refine g_iload F dX4_goOn_110 1 rfl ?_
                refine g_iconst F dX4_goOn_112 (1) (by decide) ?_
                refine g_icmp_ne 123 F dX4_goOn_113 (by omega) (by decide) rfl (fun c_7 => ?_) (fun c_7 => ?_)
                · skip
                  have hcq : c + (if vU x0 j h = 1 then 1 else 0) = c := by rw [if_neg (by omega), Int.add_zero]
                  refine g_iload F dX4_goOn_123 8 rfl ?_
                  refine g_istore F [(12, .int (J (c))), (11, .int (J ((w) + (1)))), (10, .int (J (vU x0 j h))), (9, .ref (ad 3 (j))), (0, .ref (ad 4 (0))), (1, .ref (ad 0 (0))), (2, .ref (ad 6 (r))), (3, .int (J (bitsZ (fun i => P i = true) (x0 10 0 0)))), (4, .int (J (w))), (5, .int (J (c))), (6, .int (J (h))), (7, .int (J (((pre).length : Int)))), (8, .int (J (j)))] dX4_goOn_125 (by decide) rfl ?_
                  refine g_aload_n F dX4_goOn_127 rfl 4 rfl ?_
                  refine gg_Orders_path F fk_X4_9 dX4_goOn_128 ?_
                  refine g_iload F dX4_goOn_131 11 rfl ?_
                  refine g_iload F dX4_goOn_133 12 rfl ?_
                  refine gs_24 F (by omega) dX4_goOn_135 ?_
                  refine g_aload_n F dX4_goOn_136 rfl 4 rfl ?_
                  refine g_aload_n F dX4_goOn_137 rfl 5 rfl ?_
                  refine g_aload_n F dX4_goOn_138 rfl 6 rfl ?_
                  refine g_iload_n F dX4_goOn_139 rfl 7 rfl ?_
                  refine g_iconst F dX4_goOn_140 (1) (by decide) ?_
                  refine g_iload F dX4_goOn_141 12 rfl ?_
                  refine g_ishl F dX4_goOn_143 (p2 (j)) (J_shl (by omega)) ?_
                  refine g_iconst F dX4_goOn_144 (-1) (by decide) ?_
                  refine g_ixor F dX4_goOn_145 (-(p2 (j)) - 1) (notJ _) ?_
                  refine g_iand F dX4_goOn_146 (bitsZ (fun i => (Pm P j) i = true) (x0 10 0 0)) ((bits_off (P := fun q => P q = true) (by omega) (by omega)).trans (by rw [Pm_bits])) ?_
                  refine g_iload F dX4_goOn_147 1 rfl ?_
                  refine g_iload F dX4_goOn_149 0 rfl ?_
                  refine g_aload_n F dX4_goOn_151 rfl 5 rfl ?_
                  refine g_iload F dX4_goOn_152 2 rfl ?_
                  refine g_iload F dX4_goOn_154 0 rfl ?_
                  refine g_iload F dX4_goOn_156 10 rfl ?_
                  refine g_callV 3 F (As := [.int (J (vU x0 j h)), .int (J (c)), .int (J (h))]) (st := [.int (J (c)), .int (J ((w) + (1))), .int (J (bitsZ (fun i => (Pm P j) i = true) (x0 10 0 0))), .ref (ad 6 (r)), .ref (ad 0 (0)), .ref (ad 4 (0))]) (c_X0_heatBehind l D ad (xU u 24 (0) (((pre).length : Int)) (j)) y (vU x0 j h) (c) (h) (hNu.1) (by omega) (by omega) (by omega)) (gR_0) rfl mk_X4_74 ki_X0_heatBehind kc_X0_heatBehind (by decide +kernel) rfl (by omega) dX4_goOn_158 rfl (Nat.le_of_ble_eq_true rfl) (pI_k ?_)
                  refine g_topi (b := sBeh (x0 14 0 0) (vU x0 j h) (c) (h)) (by show sBeh (u 14 0 0) _ _ _ = _; rw [e14]) ?_
                  refine g_callV 6 F (As := [.ref (ad 0 (0)), .ref (ad 6 (r)), .int (J (bitsZ (fun i => (Pm P j) i = true) (x0 10 0 0))), .int (J ((w) + (1))), .int (J (c)), .int (J (sBeh (x0 14 0 0) (vU x0 j h) (c) (h)))]) (st := []) (ih l D ad (xU u 24 (0) (((pre).length : Int)) (j)) y (x0) (r) (Pm P j) ((w) + (1)) (c) (sBeh (x0 14 0 0) (vU x0 j h) (c) (h)) (pre ++ [j]) ((bst (vlL x0 (x0 17 r 0)) ((lxC (x0 10 0 0).toNat k P j).map (pre ++ ·)) b)) (hr) (hN) (fun q hq => by rw [xU_k (by omega)]; exact hEu q hq) (by rw [len_s]; omega) (Pm_cz hPj hj.1 (by omega) hk) (fun q q0 q1 => path_s hu.2.1 hp q0 q1) (by rw [evN_one, hev]; show (w + (if sWr (x0 2 j 0) (vU x0 j h) then 1 else 0), c + (if vU x0 j h = 1 then 1 else 0), sBeh (x0 14 0 0) (vU x0 j h) (c + (if vU x0 j h = 1 then 1 else 0)) h) = _; rw [hwq, hcq]) (hu.2.2) (hBr)) (gR_4) rfl mk_X4_46 ki_X4_goOn kc_X4_goOn (by decide +kernel) rfl (by omega) dX4_goOn_161 rfl (Nat.le_of_ble_eq_true rfl) (pN_k (fun u_161 hG_161 => ?_))
                  refine g_iinc F [(8, .int (J (j + 1))), (12, .int (J (c))), (11, .int (J ((w) + (1)))), (10, .int (J (vU x0 j h))), (9, .ref (ad 3 (j))), (0, .ref (ad 4 (0))), (1, .ref (ad 0 (0))), (2, .ref (ad 6 (r))), (3, .int (J (bitsZ (fun i => P i = true) (x0 10 0 0)))), (4, .int (J (w))), (5, .int (J (c))), (6, .int (J (h))), (7, .int (J (((pre).length : Int))))] 12 rfl dX4_goOn_164 (by decide) rfl ?_
                  refine g_goto F 52 dX4_goOn_167 rfl ?_
                  refine g_sub [5, 6, 7, 8, 9, 10, 11, 12, 0] (lv' := [(0, .ref (ad 4 (0))), (1, .ref (ad 0 (0))), (2, .ref (ad 6 (r))), (3, .int (J (bitsZ (fun i => P i = true) (x0 10 0 0)))), (4, .int (J (w))), (5, .int (J (c))), (6, .int (J (h))), (7, .int (J (((pre).length : Int)))), (8, .int (J (j + 1)))]) rfl ?_
                  exact ih52 (u_161) (j + 1) (by omega) (by first | exact GO_skip hu hj.1 hPj | exact GO_step hu hj.1 hPj hG_161) (by omega)
                · skip
                  have hcq : c + (if vU x0 j h = 1 then 1 else 0) = c + 1 := by rw [if_pos (by omega)]
                  refine g_iload F dX4_goOn_116 8 rfl ?_
                  refine g_iconst F dX4_goOn_118 (1) (by decide) ?_
                  refine g_iadd F dX4_goOn_119 ?_
                  refine g_goto F 125 dX4_goOn_120 rfl ?_
                  refine g_istore F [(12, .int (J ((c) + (1)))), (11, .int (J ((w) + (1)))), (10, .int (J (vU x0 j h))), (9, .ref (ad 3 (j))), (0, .ref (ad 4 (0))), (1, .ref (ad 0 (0))), (2, .ref (ad 6 (r))), (3, .int (J (bitsZ (fun i => P i = true) (x0 10 0 0)))), (4, .int (J (w))), (5, .int (J (c))), (6, .int (J (h))), (7, .int (J (((pre).length : Int)))), (8, .int (J (j)))] dX4_goOn_125 (by decide) rfl ?_
                  refine g_aload_n F dX4_goOn_127 rfl 4 rfl ?_
                  refine gg_Orders_path F fk_X4_9 dX4_goOn_128 ?_
                  refine g_iload F dX4_goOn_131 11 rfl ?_
                  refine g_iload F dX4_goOn_133 12 rfl ?_
                  refine gs_24 F (by omega) dX4_goOn_135 ?_
                  refine g_aload_n F dX4_goOn_136 rfl 4 rfl ?_
                  refine g_aload_n F dX4_goOn_137 rfl 5 rfl ?_
                  refine g_aload_n F dX4_goOn_138 rfl 6 rfl ?_
                  refine g_iload_n F dX4_goOn_139 rfl 7 rfl ?_
                  refine g_iconst F dX4_goOn_140 (1) (by decide) ?_
                  refine g_iload F dX4_goOn_141 12 rfl ?_
                  refine g_ishl F dX4_goOn_143 (p2 (j)) (J_shl (by omega)) ?_
                  refine g_iconst F dX4_goOn_144 (-1) (by decide) ?_
                  refine g_ixor F dX4_goOn_145 (-(p2 (j)) - 1) (notJ _) ?_
                  refine g_iand F dX4_goOn_146 (bitsZ (fun i => (Pm P j) i = true) (x0 10 0 0)) ((bits_off (P := fun q => P q = true) (by omega) (by omega)).trans (by rw [Pm_bits])) ?_
                  refine g_iload F dX4_goOn_147 1 rfl ?_
                  refine g_iload F dX4_goOn_149 0 rfl ?_
                  refine g_aload_n F dX4_goOn_151 rfl 5 rfl ?_
                  refine g_iload F dX4_goOn_152 2 rfl ?_
                  refine g_iload F dX4_goOn_154 0 rfl ?_
                  refine g_iload F dX4_goOn_156 10 rfl ?_
                  refine g_callV 3 F (As := [.int (J (vU x0 j h)), .int (J ((c) + (1))), .int (J (h))]) (st := [.int (J ((c) + (1))), .int (J ((w) + (1))), .int (J (bitsZ (fun i => (Pm P j) i = true) (x0 10 0 0))), .ref (ad 6 (r)), .ref (ad 0 (0)), .ref (ad 4 (0))]) (c_X0_heatBehind l D ad (xU u 24 (0) (((pre).length : Int)) (j)) y (vU x0 j h) ((c) + (1)) (h) (hNu.1) (by omega) (by omega) (by omega)) (gR_0) rfl mk_X4_74 ki_X0_heatBehind kc_X0_heatBehind (by decide +kernel) rfl (by omega) dX4_goOn_158 rfl (Nat.le_of_ble_eq_true rfl) (pI_k ?_)
                  refine g_topi (b := sBeh (x0 14 0 0) (vU x0 j h) ((c) + (1)) (h)) (by show sBeh (u 14 0 0) _ _ _ = _; rw [e14]) ?_
                  refine g_callV 6 F (As := [.ref (ad 0 (0)), .ref (ad 6 (r)), .int (J (bitsZ (fun i => (Pm P j) i = true) (x0 10 0 0))), .int (J ((w) + (1))), .int (J ((c) + (1))), .int (J (sBeh (x0 14 0 0) (vU x0 j h) ((c) + (1)) (h)))]) (st := []) (ih l D ad (xU u 24 (0) (((pre).length : Int)) (j)) y (x0) (r) (Pm P j) ((w) + (1)) ((c) + (1)) (sBeh (x0 14 0 0) (vU x0 j h) ((c) + (1)) (h)) (pre ++ [j]) ((bst (vlL x0 (x0 17 r 0)) ((lxC (x0 10 0 0).toNat k P j).map (pre ++ ·)) b)) (hr) (hN) (fun q hq => by rw [xU_k (by omega)]; exact hEu q hq) (by rw [len_s]; omega) (Pm_cz hPj hj.1 (by omega) hk) (fun q q0 q1 => path_s hu.2.1 hp q0 q1) (by rw [evN_one, hev]; show (w + (if sWr (x0 2 j 0) (vU x0 j h) then 1 else 0), c + (if vU x0 j h = 1 then 1 else 0), sBeh (x0 14 0 0) (vU x0 j h) (c + (if vU x0 j h = 1 then 1 else 0)) h) = _; rw [hwq, hcq]) (hu.2.2) (hBr)) (gR_4) rfl mk_X4_46 ki_X4_goOn kc_X4_goOn (by decide +kernel) rfl (by omega) dX4_goOn_161 rfl (Nat.le_of_ble_eq_true rfl) (pN_k (fun u_161 hG_161 => ?_))
                  refine g_iinc F [(8, .int (J (j + 1))), (12, .int (J ((c) + (1)))), (11, .int (J ((w) + (1)))), (10, .int (J (vU x0 j h))), (9, .ref (ad 3 (j))), (0, .ref (ad 4 (0))), (1, .ref (ad 0 (0))), (2, .ref (ad 6 (r))), (3, .int (J (bitsZ (fun i => P i = true) (x0 10 0 0)))), (4, .int (J (w))), (5, .int (J (c))), (6, .int (J (h))), (7, .int (J (((pre).length : Int))))] 12 rfl dX4_goOn_164 (by decide) rfl ?_
                  refine g_goto F 52 dX4_goOn_167 rfl ?_
                  refine g_sub [5, 6, 7, 8, 9, 10, 11, 12, 0] (lv' := [(0, .ref (ad 4 (0))), (1, .ref (ad 0 (0))), (2, .ref (ad 6 (r))), (3, .int (J (bitsZ (fun i => P i = true) (x0 10 0 0)))), (4, .int (J (w))), (5, .int (J (c))), (6, .int (J (h))), (7, .int (J (((pre).length : Int)))), (8, .int (J (j + 1)))]) rfl ?_
                  exact ih52 (u_161) (j + 1) (by omega) (by first | exact GO_skip hu hj.1 hPj | exact GO_step hu hj.1 hPj hG_161) (by omega)
      refine g_sub [2, 3, 4, 5, 6, 7, 8, 1, 0] (lv' := [(0, .ref (ad 4 (0))), (1, .ref (ad 0 (0))), (2, .ref (ad 6 (r))), (3, .int (J (bitsZ (fun i => P i = true) (x0 10 0 0)))), (4, .int (J (w))), (5, .int (J (c))), (6, .int (J (h))), (7, .int (J (((pre).length : Int)))), (8, .int (J (0)))]) rfl ?_
      exact L52 _ (x) (0) (by omega) (⟨GF_rf _ _ _, fun _ _ _ => rfl, hb⟩) (Nat.lt_succ_self _)
    · skip
      exfalso; omega
  · skip
    exact g_vreturn F hR dX4_goOn_9 (pN_i (by exact GO_no (by omega) hev hb (by omega)) rfl)

theorem c_goOn : ∀ k : Nat, ∀ (l : Launch) (D : gD) (ad : gA) (x : gX) (y : gY) (x0 : gX) (r : Int) (P : Int → Bool) (w c h : Int) (pre : List Int) (b : Int × List Int) (hr : 0 ≤ r ∧ r < 6) (hN : NOK x0) (hE : ∀ q : Int, q ≤ 17 → x q = x0 q) (hS : ((pre).length : Int) + ((k : Nat) : Int) = x0 17 r 0 ∧ x0 17 r 0 ≤ 6) (hk : sumZ (fun i => if P i = true then 1 else 0) (x0 10 0 0) = ((k : Nat) : Int)) (hp : ∀ j : Int, 0 ≤ j → j < ((pre).length : Int) → x 24 0 j = fnL pre j) (hev : evN x0 (fnL pre) (pre).length = (w, c, h)) (hb : GB x0 r x b) (hbr : 0 ≤ (b).1 ∧ (b).1 ≤ 7), gC l D ad (4 + (k)) yX4_goOn cX4_goOn 13 none [.ref (ad 4 (0)), .ref (ad 0 (0)), .ref (ad 6 (r)), .int (J (bitsZ (fun i => P i = true) (x0 10 0 0))), .int (J (w)), .int (J (c)), .int (J (h))] x y (pN (fun u => GO x0 r x u ((pre).length : Int) (bst (vlL x0 (x0 17 r 0)) ((lx (x0 10 0 0).toNat (k) P).map (pre ++ ·)) b)) (y)) := by
  intro k
  induction k with
  | zero => exact c_goOn0
  | succ k ih => exact c_goOnS k ih
