abbrev utP (x : gX) : Int → Bool := fun i => decide (x 6 i 0 = -9)
abbrev utN (x : gX) : Int := sumZ (fun i => if utP x i = true then 1 else 0) (x 10 0 0)
theorem left_bits {x : gX} {n : Int} (h0 : 0 ≤ n) : J (bitsZ (fun _ => True) n) &&& J (-(bitsZ (fun i => x 6 i 0 ≠ -9) n) - 1) = J (bitsZ (fun i => utP x i = true) n) := by
  obtain ⟨m, rfl⟩ : ∃ m : Nat, n = m := ⟨n.toNat, by omega⟩
  rw [← notJ, bits_andn]
  congr 1
  exact bitsZ_cong (fun q _ _ => by simp [utP])
theorem lf_r {x : gX} {P : Int → Prop} [DecidablePred P] (hN : NOK x) : 0 ≤ bitsZ P (x 10 0 0) ∧ bitsZ P (x 10 0 0) < 2147483648 := by
  have a : 0 ≤ bitsZ P (x 10 0 0) ∧ bitsZ P (x 10 0 0) < p2 (x 10 0 0) := bitZ_r hN.2.1.1
  have b := p2_mono hN.2.1.2
  have c : p2 6 = 64 := by decide +kernel
  omega
theorem lxM_in {P : Int → Bool} {g : Int → List (List Int)} {i : Nat} {s : List Int} (hP : P (i : Int) = true) (hs : s ∈ g (i : Int)) : ∀ m : Nat, i < m → s ∈ lxM P g m
  | 0, h => absurd h (Nat.not_lt_zero _)
  | m + 1, h => by
    show s ∈ lxM P g m ++ (if P (m : Int) then g (m : Int) else [])
    rcases (show i < m ∨ i = m by omega) with e | e
    · exact List.mem_append_left _ (lxM_in hP hs m e)
    · subst e
      rw [if_pos hP]
      exact List.mem_append_right _ hs
theorem cnt_pos {P : Int → Bool} : ∀ m : Nat, 0 < sumN (fun i => if P i = true then 1 else 0) m → ∃ i : Nat, i < m ∧ P (i : Int) = true
  | 0, h => absurd h (by show ¬ (0 : Int) < 0; decide)
  | m + 1, h => by
    by_cases q : P (m : Int) = true
    · exact ⟨m, by omega, q⟩
    · have h2 : 0 < sumN (fun i => if P i = true then 1 else 0) m + (if P (m : Int) = true then 1 else 0) := h
      rw [if_neg q, Int.add_zero] at h2
      obtain ⟨i, a, b⟩ := cnt_pos m h2
      exact ⟨i, by omega, b⟩
theorem lx_ne {n : Nat} : ∀ (k : Nat) (P : Int → Bool), sumZ (fun i => if P i = true then 1 else 0) (n : Int) = (k : Int) → ∃ s, s ∈ lx n k P
  | 0, _, _ => ⟨[], List.mem_singleton.mpr rfl⟩
  | k + 1, P, h => by
    obtain ⟨i, hi, hP⟩ := cnt_pos (P := P) n (by
      have e : sumN (fun i => if P i = true then 1 else 0) n = ((k + 1 : Nat) : Int) := h
      rw [e]; omega)
    obtain ⟨s, hs⟩ := lx_ne k (Pm P (i : Int)) (Pm_cz hP (by omega) (by omega) h)
    exact ⟨(i : Int) :: s, lxM_in (g := fun i => (lx n k (Pm P i)).map (i :: ·)) hP (List.mem_map.mpr ⟨s, hs, rfl⟩) n hi⟩
theorem evN_k {x u : gX} (e : ∀ k : Int, k ≤ 15 → u k = x k) (f : Int → Int) : ∀ k : Nat, evN u f k = evN x f k
  | 0 => by
    show (0, tcU u, u 15 0 0) = (0, tcU x, x 15 0 0)
    rw [show tcU u = tcU x by show sumZ (fun i => if u 6 i 0 = 1 then 1 else 0) (u 10 0 0) = _; rw [e 6 (by decide), e 10 (by decide)], e 15 (by decide)]
  | k + 1 => by
    show stp u (f (k : Int)) (evN u f k) = stp x (f (k : Int)) (evN x f k)
    rw [evN_k e f k, stp_k e]
theorem vlL_k {x u : gX} (e : ∀ k : Int, k ≤ 15 → u k = x k) (N : Int) : vlL u N = vlL x N := by
  funext L
  unfold vlL
  rw [evN_k e]
/-- the best order, how many are told wrongly by it -/
def ordB (x : gX) : Int × List Int := bst (vlL x (utN x)) (lx (x 10 0 0).toNat (utN x).toNat (utP x)) (7, [])
theorem utN_r {x : gX} (hN : NOK x) : 0 ≤ utN x ∧ utN x ≤ 6 := by
  have a : 0 ≤ utN x ∧ utN x ≤ x 10 0 0 := cntZ_r hN.2.1.1
  have := hN.2.1
  omega
theorem ordB_r {x : gX} (hN : NOK x) : 0 ≤ (ordB x).1 ∧ (ordB x).1 < 7 := by
  have hu := utN_r hN
  refine ⟨bst_r _ (fun s => (vlL_0 hN _ s).1) _ _ (by decide), ?_⟩
  obtain ⟨s, hs⟩ := lx_ne (n := (x 10 0 0).toNat) (utN x).toNat (utP x) (by
    rw [Int.toNat_of_nonneg hN.2.1.1, Int.toNat_of_nonneg hu.1])
  have a := bst_in (vlL x (utN x)) _ (7, []) s hs
  have b := (vlL_0 hN (utN x) s).2
  show (bst (vlL x (utN x)) (lx (x 10 0 0).toNat (utN x).toNat (utP x)) (7, [])).1 < 7
  omega
def orM (x : gX) (r : Int) : gX := fun k i j => if k = 20 ∧ i = r ∧ 0 ≤ j ∧ j < utN x then fnL (ordB x).2 j else if k = 17 ∧ i = r ∧ j = 0 then utN x else x k i j
def sOrder (x : gX) (r : Int) : Int × gX := if rRf x r ≠ 0 then (rRf x r, x) else ((ordB x).1, orM x r)
abbrev orX (x : gX) (r : Int) : gX := xU x 17 r 0 (utN x)
theorem orX_E (x : gX) (r q : Int) (hq : q ≤ 15) : orX x r q = x q := xU_k (by omega)
theorem flM_k (x : gX) (r v m : Int) {k : Int} (h : k ≠ 20) : flM x r v m k = x k := by funext i j; unfold flM; rw [if_neg (fun q => h q.1)]
theorem or_E (x : gX) (r q : Int) (hq : q ≤ 17) : xU (xU (flM x (r) (0) (utN x)) 17 (r) 0 (utN x)) 34 (0) (0) (7) q = orX x r q := by
  rw [xU_k (by omega)]
  funext i j
  show (if q = 17 ∧ i = r ∧ j = 0 then utN x else flM x r 0 (utN x) q i j) = (if q = 17 ∧ i = r ∧ j = 0 then utN x else x q i j)
  rw [flM_k x r 0 (utN x) (by omega)]
theorem or_bst {x : gX} {r : Int} (hN : NOK x) : bst (vlL (orX x r) (orX x r 17 r 0)) ((lx (orX x r 10 0 0).toNat (utN x).toNat (utP x)).map ([] ++ ·)) (7, []) = ordB x := by
  have e : orX x r 17 r 0 = utN x := xU_same _ _ _ _ _
  have e2 : (lx (orX x r 10 0 0).toNat (utN x).toNat (utP x)).map ([] ++ ·) = lx (x 10 0 0).toNat (utN x).toNat (utP x) := by
    rw [show (fun s : List Int => [] ++ s) = id from rfl, List.map_id]; rfl
  rw [e, e2, vlL_k (orX_E x r)]; rfl
theorem xG_or {x u : gX} {r : Int} (hN : NOK x) (h : GO (orX x r) r (xU (xU (flM x (r) (0) (utN x)) 17 (r) 0 (utN x)) 34 (0) (0) (7)) u (([] : List Int).length : Int) (bst (vlL (orX x r) (orX x r 17 r 0)) ((lx (orX x r 10 0 0).toNat (utN x).toNat (utP x)).map ([] ++ ·)) (7, []))) : u 34 0 0 = (ordB x).1 ∧ xG (orM x r) u := by
  rw [or_bst hN] at h
  have e : orX x r 17 r 0 = utN x := xU_same _ _ _ _ _
  obtain ⟨h1, h2, h3, h4⟩ := h
  unfold GF at h1
  rw [e] at h1 h4
  have key : ∀ k i j : Int, k ≠ 24 → k ≠ 34 → u k i j = orM x r k i j := by
    intro k i j k1 k2
    unfold orM
    by_cases q : k = 20 ∧ i = r ∧ 0 ≤ j ∧ j < utN x
    · rw [if_pos q, q.1, q.2.1]
      exact h4 (ordB_r hN).2 j q.2.2.1 q.2.2.2
    · rw [if_neg q, h1 k i j q k1 k2, xU_k k2]
      unfold xU flM
      refine ite_congr rfl (fun _ => rfl) (fun _ => ?_)
      rw [if_neg q]
  refine ⟨h3, fun k i j hk => key k i j (by omega) (by omega), fun hd => ?_⟩
  unfold dOK at hd ⊢
  rw [key 38 0 0 (by decide) (by decide), key 39 0 0 (by decide) (by decide)]
  exact hd
/-! trials by a row -/
abbrev ocU (x : gX) (r j i : Int) : Int := sumZ (fun q => if x 20 r q = i then 1 else 0) j
abbrev ofP (x : gX) (r n : Int) : Prop := sumZ (fun j => if mnN x (x 20 r j) ∧ x 6 (x 20 r j) 0 = -9 ∧ ocU x r j (x 20 r j) = 0 then 0 else 1) n = 0
def ofU (x : gX) (r : Int) : Int := if x 17 r 0 = -1 then 1 else if 6 < x 17 r 0 then 5 else if ofP x r (x 17 r 0) then 0 else 3
theorem ofU_r (x : gX) (r : Int) : 0 ≤ ofU x r ∧ ofU x r ≤ 5 := by unfold ofU; (repeat' split) <;> omega
theorem ofU_0 {x : gX} {r : Int} (h : ofU x r = 0) : x 17 r 0 ≠ -1 ∧ x 17 r 0 ≤ 6 ∧ ofP x r (x 17 r 0) := by
  unfold ofU at h
  split at h
  · omega
  · split at h
    · omega
    · split at h
      · exact ⟨by assumption, by omega, by assumption⟩
      · omega
theorem ofP_at {x : gX} {r n j : Int} (hn : 0 ≤ n) (h : ofP x r n) (h0 : 0 ≤ j) (h1 : j < n) : mnN x (x 20 r j) ∧ x 6 (x 20 r j) 0 = -9 ∧ ocU x r j (x 20 r j) = 0 := (mmZ_iff (P := fun j => mnN x (x 20 r j) ∧ x 6 (x 20 r j) 0 = -9 ∧ ocU x r j (x 20 r j) = 0) hn).mp h j h0 h1
theorem ocU_s (x : gX) (r i : Int) {j : Int} (h : 0 ≤ j) : ocU x r (j + 1) i = ocU x r j i + if x 20 r j = i then 1 else 0 := sumZ_s _ h
theorem ocU_0 (x : gX) (r i : Int) {j : Int} (h : 0 ≤ j) : 0 ≤ ocU x r j i := (cntZ_r h).1
def evZ (x : gX) (f : Int → Int) (k : Int) : Int × Int × Int := evN x f k.toNat
theorem evZ_s (x : gX) (f : Int → Int) {k : Int} (h : 0 ≤ k) : evZ x f (k + 1) = stp x (f k) (evZ x f k) := by
  unfold evZ
  rw [show (k + 1).toNat = k.toNat + 1 by omega]
  show stp x (f (k.toNat : Int)) (evN x f k.toNat) = _
  rw [Int.toNat_of_nonneg h]
theorem evZ_r {x : gX} (hN : NOK x) (f : Int → Int) {k : Int} (h : 0 ≤ k) : (0 ≤ (evZ x f k).1 ∧ (evZ x f k).1 ≤ k) ∧ (0 ≤ (evZ x f k).2.1 ∧ (evZ x f k).2.1 ≤ 6 + k) ∧ 0 ≤ (evZ x f k).2.2 ∧ (evZ x f k).2.2 ≤ 30 := by
  have := evN_r hN f k.toNat
  rw [Int.toNat_of_nonneg h] at this
  exact this
def sTried (x : gX) (r : Int) : Int × gX := if rRf x r ≠ 0 then (rRf x r, x) else if ofU x r ≠ 0 then (-3, fnd x (ofU x r)) else ((evZ x (x 20 r) (x 17 r 0)).1, xU x 19 0 0 (evZ x (x 20 r) (x 17 r 0)).2.2)
set_option maxRecDepth 20000 in
theorem c_X4_layBest (l : Launch) (D : gD) (ad : gA) (x : gX) (y : gY) (r : Int) (hr : 0 ≤ r ∧ r < 6) (hN : NOK x) : gC l D ad 11 yX4_layBest cX4_layBest 5 (some .int) [.ref (ad 4 (0)), .ref (ad 0 (0)), .ref (ad 6 (r))] x y (pG (.int (J ((ordB x).1))) (fun u => xG (orM x r) u) (y)) := by
  refine g_met RX4 rfl (by decide +kernel) [(0, .ref (ad 4 (0))), (1, .ref (ad 0 (0))), (2, .ref (ad 6 (r)))] rfl (Nat.le_of_ble_eq_true rfl) (fun Θ F hR => ?_)
  have h10 := hN.2.1
  have hun := utN_r hN
  refine g_iconst F dX4_layBest_0 (1) (by decide) ?_
  refine g_aload_n F dX4_layBest_1 rfl 1 rfl ?_
  refine ggN_Court_size F fk_X4_15 dX4_layBest_2 ?_
  refine g_ishl F dX4_layBest_5 (p2 (x 10 0 0)) (J_shl (by omega)) ?_
  refine g_iconst F dX4_layBest_6 (1) (by decide) ?_
  refine g_isub F dX4_layBest_7 ?_
  refine g_topi (b := bitsZ (fun _ => True) (x 10 0 0)) (bits_all _ (by omega)) ?_
  refine g_istore_n F [(3, .int (J (bitsZ (fun _ => True) (x 10 0 0)))), (0, .ref (ad 4 (0))), (1, .ref (ad 0 (0))), (2, .ref (ad 6 (r)))] dX4_layBest_8 rfl (by decide) rfl ?_
  refine g_iload_n F dX4_layBest_9 rfl 0 rfl ?_
  refine g_aload_n F dX4_layBest_10 rfl 2 rfl ?_
  refine g_callV 0 F (As := []) (st := [.int (J (bitsZ (fun _ => True) (x 10 0 0)))]) (c_X0_triedOnes l D ad x y  (hN)) (gR_0) rfl mk_X4_21 ki_X0_triedOnes kc_X0_triedOnes (by decide +kernel) rfl (by omega) dX4_layBest_11 rfl (Nat.le_of_ble_eq_true rfl) (pI_k ?_)
  refine g_iconst F dX4_layBest_14 (-1) (by decide) ?_
  refine g_ixor F dX4_layBest_15 (-(trU x) - 1) (notJ _) ?_
  refine g_iand F dX4_layBest_16 (bitsZ (fun i => utP x i = true) (x 10 0 0)) (left_bits hN.2.1.1) ?_
  refine g_istore F [(4, .int (J (bitsZ (fun i => utP x i = true) (x 10 0 0)))), (3, .int (J (bitsZ (fun _ => True) (x 10 0 0)))), (0, .ref (ad 4 (0))), (1, .ref (ad 0 (0))), (2, .ref (ad 6 (r)))] dX4_layBest_17 (by decide) rfl ?_
  refine g_aload_n F dX4_layBest_19 rfl 4 rfl ?_
  refine g_iload F dX4_layBest_20 0 rfl ?_
  refine g_callS 1 F (As := [.int (J (bitsZ (fun i => utP x i = true) (x 10 0 0)))]) (st := [.ref (ad 6 (r))]) (c_bitc l D ad x y (bitsZ (fun i => utP x i = true) (x 10 0 0)) (lf_r hN)) rfl mk_X4_25 ki_J6_bitCount_0f7a4 kc_J6_bitCount_0f7a4 (by decide +kernel) rfl (by omega) dX4_layBest_22 rfl (Nat.le_of_ble_eq_true rfl) (pI_k ?_)
  refine g_topi (b := utN x) (pc_n hN.2.1.1 (by omega)) ?_
  refine g_iconst F dX4_layBest_25 (0) (by decide) ?_
  refine g_callV 2 F (As := [.int (J (utN x)), .int (J (0))]) (st := []) (c_X6_layOut l D ad x y (r) (utN x) (0) (by omega) (by omega)) (gR_6 (by omega)) rfl mk_X4_31 ki_X6_layOut kc_X6_layOut (by decide +kernel) rfl (by omega) dX4_layBest_26 rfl (Nat.le_of_ble_eq_true rfl) (pV_k ?_)
  refine g_aload_n F dX4_layBest_29 rfl 2 rfl ?_
  refine g_bipush F dX4_layBest_30 (7) (by decide) ?_
  refine gp_Orders_fewest F fk_X4_37 dX4_layBest_32 ?_
  refine g_aload_n F dX4_layBest_35 rfl 2 rfl ?_
  refine g_aload_n F dX4_layBest_36 rfl 3 rfl ?_
  refine g_aload_n F dX4_layBest_37 rfl 4 rfl ?_
  refine g_iload F dX4_layBest_38 0 rfl ?_
  refine g_iconst F dX4_layBest_40 (0) (by decide) ?_
  refine g_aload_n F dX4_layBest_41 rfl 3 rfl ?_
  refine g_callV 0 F (As := []) (st := [.int (J (0)), .int (J (bitsZ (fun i => utP x i = true) (x 10 0 0))), .ref (ad 6 (r)), .ref (ad 0 (0)), .ref (ad 4 (0))]) (c_X0_toldClean l D ad (xU (xU (flM x (r) (0) (utN x)) 17 (r) 0 (utN x)) 34 (0) (0) (7)) y  (hN)) (gR_0) rfl mk_X4_40 ki_X0_toldClean kc_X0_toldClean (by decide +kernel) rfl (by omega) dX4_layBest_42 rfl (Nat.le_of_ble_eq_true rfl) (pI_k ?_)
  refine g_topi (b := tcU x) (rfl) ?_
  refine g_topi (b := tcU x) (rfl) ?_
  refine g_aload_n F dX4_layBest_45 rfl 3 rfl ?_
  refine ggN_Court_heat F fk_X4_43 dX4_layBest_46 ?_
  refine g_topi (b := (xU (flM x (r) (0) (utN x)) 17 (r) 0 (utN x)) 15 (0) (0)) (by simp [xU]) ?_
  refine g_topi (b := x 15 0 0) (rfl) ?_
  refine g_callV 6 F (As := [.ref (ad 0 (0)), .ref (ad 6 (r)), .int (J (bitsZ (fun i => utP x i = true) (x 10 0 0))), .int (J (0)), .int (J (tcU x)), .int (J (x 15 0 0))]) (st := []) (c_goOn (utN x).toNat l D ad (xU (xU (flM x (r) (0) (utN x)) 17 (r) 0 (utN x)) 34 (0) (0) (7)) y (orX x r) (r) (utP x) (0) (tcU x) (x 15 0 0) ([]) ((7, [])) (hr) (NOK_k (orX_E x r) hN) (fun q hq => or_E x r q hq) (by show 0 + (((utN x).toNat : Nat) : Int) = orX x r 17 r 0 ∧ orX x r 17 r 0 ≤ 6; rw [show orX x r 17 r 0 = utN x from xU_same _ _ _ _ _]; omega) (by show utN x = _; omega) (fun j h0 h1 => absurd h1 (by show ¬ j < 0; omega)) (evN_k (orX_E x r) _ 0) (⟨xU_same _ _ _ _ _, fun q => absurd q (by decide)⟩) (by decide)) (gR_4) rfl mk_X4_46 ki_X4_goOn kc_X4_goOn (by decide +kernel) rfl (by omega) dX4_layBest_49 rfl (Nat.le_of_ble_eq_true rfl) (pN_k (fun u_49 hG_49 => ?_))
  have hgo := xG_or hN hG_49
  refine g_aload_n F dX4_layBest_52 rfl 2 rfl ?_
  refine gg_Orders_fewest F fk_X4_37 dX4_layBest_53 ?_
  refine g_topi (b := (ordB x).1) (hgo.1) ?_
  exact g_ireturn F hR dX4_layBest_56 (pG_z (by rfl) (by exact hgo.2) rfl)

set_option maxRecDepth 20000 in
theorem c_X7_order (l : Launch) (D : gD) (ad : gA) (x : gX) (y : gY) (r : Int) (hr : i32 r) (hV : INV x) : gC l D ad 12 yX7_order cX7_order 3 (some .int) [.ref (ad 7 (0)), .int (J (r))] x y (pG (.int (J ((sOrder x r).1))) (fun u => xG (sOrder x r).2 u) (y)) := by
  refine g_met RX7 rfl (by decide +kernel) [(0, .ref (ad 7 (0))), (1, .int (J (r)))] rfl (Nat.le_of_ble_eq_true rfl) (fun Θ F hR => ?_)
  obtain ⟨hN, hRW, hDD, hCU, hMS⟩ := hV
  refine g_aload_n F dX7_order_0 rfl 0 rfl ?_
  refine g_iload_n F dX7_order_1 rfl 1 rfl ?_
  refine g_callV 1 F (As := [.int (J (r))]) (st := []) (c_X7_rowRefusal l D ad x y (r) (by omega) (by omega)) (gR_7) rfl mk_X7_221 ki_X7_rowRefusal kc_X7_rowRefusal (by decide +kernel) rfl (by decide) dX7_order_2 rfl (Nat.le_of_ble_eq_true rfl) (pI_k ?_)
  have hr1 := rRf_r x r
  refine g_istore_n F [(2, .int (J (rRf x (r)))), (0, .ref (ad 7 (0))), (1, .int (J (r)))] dX7_order_5 rfl (by decide) rfl ?_
  refine g_iload_n F dX7_order_6 rfl 0 rfl ?_
  refine g_if_eq 12 F dX7_order_7 (by omega) rfl (fun c_1 => ?_) (fun c_1 => ?_)
  · skip
    have hq := rRf_0 c_1
    refine g_aload_n F dX7_order_12 rfl 1 rfl ?_
    refine gg_Day_orders F fk_X7_41 dX7_order_13 ?_
    refine g_aload_n F dX7_order_16 rfl 1 rfl ?_
    refine gg_Day_court F fk_X7_28 dX7_order_17 ?_
    refine g_aload_n F dX7_order_20 rfl 1 rfl ?_
    refine gg_Day_rows F fk_X7_11 dX7_order_21 ?_
    refine g_iload_n F dX7_order_24 rfl 2 rfl ?_
    refine ga_30 F (by omega) dX7_order_25 ?_
    refine g_callV 2 F (As := [.ref (ad 0 (0)), .ref (ad 6 (r))]) (st := []) (c_X4_layBest l D ad x y (r) (by omega) (hN)) (gR_4) rfl mk_X7_224 ki_X4_layBest kc_X4_layBest (by decide +kernel) rfl (by decide) dX7_order_26 rfl (Nat.le_of_ble_eq_true rfl) (pG_k (fun u_26 hG_26 => ?_))
    exact g_ireturn F hR dX7_order_29 (pG_z (by unfold sOrder; (repeat' split) <;> first | rfl | (exfalso; omega)) (by unfold sOrder; (repeat' split) <;> first | exact xG_rf _ | exact hG_26 | (exfalso; omega)) rfl)
  · skip
    refine g_iload_n F dX7_order_10 rfl 0 rfl ?_
    exact g_ireturn F hR dX7_order_11 (pG_z (by unfold sOrder; (repeat' split) <;> first | rfl | (exfalso; omega)) (by unfold sOrder; (repeat' split) <;> first | exact xG_rf _ | exact hG_26 | (exfalso; omega)) rfl)

set_option maxRecDepth 20000 in
theorem c_X7_orderFinding (l : Launch) (D : gD) (ad : gA) (x : gX) (y : gY) (r : Int) (hr : 0 ≤ r ∧ r < 6) (hN : NOK x) (hs : -1 ≤ x 17 r 0 ∧ x 17 r 0 ≤ (if r < 6 then 40 else 60)) (hx : ∀ j : Int, i32 (x 20 r j)) : gC l D ad 2 yX7_orderFinding cX7_orderFinding 5 (some .int) [.ref (ad 7 (0)), .ref (ad 6 (r))] x y (pI (ofU x r) (x) (y)) := by
  refine g_met RX7 rfl (by decide +kernel) [(0, .ref (ad 7 (0))), (1, .ref (ad 6 (r)))] rfl (Nat.le_of_ble_eq_true rfl) (fun Θ F hR => ?_)
  have hs2 : x 17 r 0 ≤ 60 := by split at hs <;> omega
  have h10 := hN.2.1
  refine g_aload_n F dX7_orderFinding_0 rfl 1 rfl ?_
  refine g_callV 0 F (As := []) (st := []) (c_X6_isMissing l D ad x y (r) (by omega) (by omega)) (gR_6 (by omega)) rfl mk_X7_94 ki_X6_isMissing kc_X6_isMissing (by decide +kernel) rfl (by decide) dX7_orderFinding_1 rfl (Nat.le_of_ble_eq_true rfl) (pB_k ?_)
  refine g_ifb_eq 9 F dX7_orderFinding_4 rfl (fun c_1 => ?_) (fun c_1 => ?_)
  · skip
    refine g_aload_n F dX7_orderFinding_9 rfl 1 rfl ?_
    refine ggN_Row_size F (by omega) fk_X7_83 dX7_orderFinding_10 ?_
    refine g_bipush F dX7_orderFinding_13 (6) (by decide) ?_
    refine g_icmp_le 20 F dX7_orderFinding_15 (by omega) (by decide) rfl (fun c_2 => ?_) (fun c_2 => ?_)
    · skip
      refine g_aload_n F dX7_orderFinding_20 rfl 0 rfl ?_
      refine gg_Day_court F fk_X7_28 dX7_orderFinding_21 ?_
      refine g_callV 0 F (As := []) (st := []) (c_X0_triedOnes l D ad x y  (hN)) (gR_0) rfl mk_X7_311 ki_X0_triedOnes kc_X0_triedOnes (by decide +kernel) rfl (by decide) dX7_orderFinding_24 rfl (Nat.le_of_ble_eq_true rfl) (pI_k ?_)
      refine g_istore_n F [(2, .int (J (trU x))), (0, .ref (ad 7 (0))), (1, .ref (ad 6 (r)))] dX7_orderFinding_27 rfl (by decide) rfl ?_
      refine g_iconst F dX7_orderFinding_28 (0) (by decide) ?_
      refine g_istore_n F [(3, .int (J (0))), (2, .int (J (trU x))), (0, .ref (ad 7 (0))), (1, .ref (ad 6 (r)))] dX7_orderFinding_29 rfl (by decide) rfl ?_
      have L30 : ∀ (N : Nat) (a : Int) (j : Int), 0 ≤ j ∧ j ≤ x 17 r 0 → a = bitsZ (fun i => x 6 i 0 ≠ -9 ∨ ocU x r j i ≠ 0) (x 10 0 0) → ofP x r j → (x 17 r 0 - j).toNat < N → gW Θ l D ad 5 30 [(0, .ref (ad 7 (0))), (1, .ref (ad 6 (r))), (2, .int (J (a))), (3, .int (J (j)))] [] x y := by
        intro N
        induction N with
        | zero => intro a j hj ha hl hFu; omega
        | succ N ih30 =>
          intro a j hj ha hl hFu
          refine g_iload_n F dX7_orderFinding_30 rfl 3 rfl ?_
          refine g_aload_n F dX7_orderFinding_31 rfl 1 rfl ?_
          refine ggN_Row_size F (by omega) fk_X7_83 dX7_orderFinding_32 ?_
          refine g_icmp_ge 79 F dX7_orderFinding_35 (by omega) (by omega) rfl (fun c_3 => ?_) (fun c_3 => ?_)
          · skip
            refine g_iconst F dX7_orderFinding_79 (0) (by decide) ?_
            exact g_ireturn F hR dX7_orderFinding_80 (pI_i (by unfold ofU; first | (rw [if_pos (by omega)]; done) | (rw [if_neg (by omega), if_pos (by omega)]; done) | (rw [if_neg (by omega), if_neg (by omega), if_neg (mm_no (P := fun j => mnN x (x 20 r j) ∧ x 6 (x 20 r j) 0 = -9 ∧ ocU x r j (x 20 r j) = 0) (j := j) (by omega) (by omega) (by omega))]; done) | (rw [show j = x 17 r 0 by omega] at hl; rw [if_neg (by omega), if_neg (by omega), if_pos hl])) rfl rfl)
          · skip
            refine g_aload_n F dX7_orderFinding_38 rfl 1 rfl ?_
            refine ggN_Row_places F (by omega) fk_X7_72 dX7_orderFinding_39 ?_
            refine g_iload_n F dX7_orderFinding_42 rfl 3 rfl ?_
            refine ga_20 F (by omega) (by omega) dX7_orderFinding_43 ?_
            refine g_istore F [(4, .int (J (x 20 (r) (j)))), (0, .ref (ad 7 (0))), (1, .ref (ad 6 (r))), (2, .int (J (a))), (3, .int (J (j)))] dX7_orderFinding_44 (by decide) rfl ?_
            refine g_aload_n F dX7_orderFinding_46 rfl 1 rfl ?_
            refine g_iload F dX7_orderFinding_47 0 rfl ?_
            refine g_callV 1 F (As := [.int (J (x 20 (r) (j)))]) (st := []) (c_X7_isMan l D ad x y (x 20 (r) (j)) (hx j) (hN)) (gR_7) rfl mk_X7_122 ki_X7_isMan kc_X7_isMan (by decide +kernel) rfl (by decide) dX7_orderFinding_49 rfl (Nat.le_of_ble_eq_true rfl) (pB_k ?_)
            refine g_ifb_eq 64 F dX7_orderFinding_52 rfl (fun c_4 => ?_) (fun c_4 => ?_)
            · skip
              refine g_iconst F dX7_orderFinding_64 (3) (by decide) ?_
              exact g_ireturn F hR dX7_orderFinding_65 (pI_i (by unfold ofU; first | (rw [if_pos (by omega)]; done) | (rw [if_neg (by omega), if_pos (by omega)]; done) | (rw [if_neg (by omega), if_neg (by omega), if_neg (mm_no (P := fun j => mnN x (x 20 r j) ∧ x 6 (x 20 r j) 0 = -9 ∧ ocU x r j (x 20 r j) = 0) (j := j) (by omega) (by omega) (by omega))]; done) | (rw [show j = x 17 r 0 by omega] at hl; rw [if_neg (by omega), if_neg (by omega), if_pos hl])) rfl rfl)
            · skip
              have hp2 := p2_pos (x 20 r j)
              have hp2b := p2_le30 (i := x 20 r j) (by omega)
              have hmn := c_4
              refine g_iload_n F dX7_orderFinding_55 rfl 3 rfl ?_
              refine g_iconst F dX7_orderFinding_56 (1) (by decide) ?_
              refine g_iload F dX7_orderFinding_57 0 rfl ?_
              refine g_ishl F dX7_orderFinding_59 (p2 (x 20 (r) (j))) (J_shl (by omega)) ?_
              refine g_iand F dX7_orderFinding_60 (if x 6 (x 20 r j) 0 ≠ -9 ∨ ocU x r j (x 20 r j) ≠ 0 then p2 (x 20 (r) (j)) else 0) (by rw [ha]; exact bits_ask (P := fun i => x 6 i 0 ≠ -9 ∨ ocU x r j i ≠ 0) (by omega) (by omega)) ?_
              refine g_if_eq 66 F dX7_orderFinding_61 (by split <;> omega) rfl (fun c_5 => ?_) (fun c_5 => ?_)
              · skip
                have hok : x 6 (x 20 r j) 0 = -9 ∧ ocU x r j (x 20 r j) = 0 := by split at c_5 <;> omega
                refine g_iload_n F dX7_orderFinding_66 rfl 3 rfl ?_
                refine g_iconst F dX7_orderFinding_67 (1) (by decide) ?_
                refine g_iload F dX7_orderFinding_68 0 rfl ?_
                refine g_ishl F dX7_orderFinding_70 (p2 (x 20 (r) (j))) (J_shl (by omega)) ?_
                refine g_ior F dX7_orderFinding_71 (bitsZ (fun q => (x 6 q 0 ≠ -9 ∨ ocU x r j q ≠ 0) ∨ q = x 20 r j) (x 10 0 0)) (by rw [ha]; exact bits_put (P := fun i => x 6 i 0 ≠ -9 ∨ ocU x r j i ≠ 0) (by omega) (by omega)) ?_
                refine g_istore_n F [(2, .int (J (bitsZ (fun q => (x 6 q 0 ≠ -9 ∨ ocU x r j q ≠ 0) ∨ q = x 20 r j) (x 10 0 0)))), (4, .int (J (x 20 (r) (j)))), (0, .ref (ad 7 (0))), (1, .ref (ad 6 (r))), (3, .int (J (j)))] dX7_orderFinding_72 rfl (by decide) rfl ?_
                refine g_iinc F [(3, .int (J (j + 1))), (2, .int (J (bitsZ (fun q => (x 6 q 0 ≠ -9 ∨ ocU x r j q ≠ 0) ∨ q = x 20 r j) (x 10 0 0)))), (4, .int (J (x 20 (r) (j)))), (0, .ref (ad 7 (0))), (1, .ref (ad 6 (r)))] 4 rfl dX7_orderFinding_73 (by decide) rfl ?_
                refine g_goto F 30 dX7_orderFinding_76 rfl ?_
                refine g_sub [3, 4, 1, 0] (lv' := [(0, .ref (ad 7 (0))), (1, .ref (ad 6 (r))), (2, .int (J (bitsZ (fun q => (x 6 q 0 ≠ -9 ∨ ocU x r j q ≠ 0) ∨ q = x 20 r j) (x 10 0 0)))), (3, .int (J (j + 1)))]) rfl ?_
                exact ih30 (bitsZ (fun q => (x 6 q 0 ≠ -9 ∨ ocU x r j q ≠ 0) ∨ q = x 20 r j) (x 10 0 0)) (j + 1) (by omega) (bitsZ_cong (fun i _ _ => by have h1 := ocU_s x r i hj.1; have h2 := ocU_0 x r i hj.1; show (x 6 i 0 ≠ -9 ∨ ocU x r j i ≠ 0) ∨ i = x 20 r j ↔ x 6 i 0 ≠ -9 ∨ ocU x r (j + 1) i ≠ 0; rw [h1]; split <;> omega)) ((mm_s (f := fun j => mnN x (x 20 r j) ∧ x 6 (x 20 r j) 0 = -9 ∧ ocU x r j (x 20 r j) = 0) (by omega)).mpr ⟨hl, by omega⟩) (by omega)
              · skip
                have hno : ¬ (x 6 (x 20 r j) 0 = -9 ∧ ocU x r j (x 20 r j) = 0) := by split at c_5 <;> omega
                refine g_iconst F dX7_orderFinding_64 (3) (by decide) ?_
                exact g_ireturn F hR dX7_orderFinding_65 (pI_i (by unfold ofU; first | (rw [if_pos (by omega)]; done) | (rw [if_neg (by omega), if_pos (by omega)]; done) | (rw [if_neg (by omega), if_neg (by omega), if_neg (mm_no (P := fun j => mnN x (x 20 r j) ∧ x 6 (x 20 r j) 0 = -9 ∧ ocU x r j (x 20 r j) = 0) (j := j) (by omega) (by omega) (by omega))]; done) | (rw [show j = x 17 r 0 by omega] at hl; rw [if_neg (by omega), if_neg (by omega), if_pos hl])) rfl rfl)
      refine g_sub [2, 3, 1, 0] (lv' := [(0, .ref (ad 7 (0))), (1, .ref (ad 6 (r))), (2, .int (J (trU x))), (3, .int (J (0)))]) rfl ?_
      exact L30 _ (trU x) (0) (by omega) (bitsZ_cong (fun i _ _ => ⟨fun q => Or.inl q, fun q => q.elim id (fun w => absurd rfl w)⟩)) (rfl) (Nat.lt_succ_self _)
    · skip
      refine g_iconst F dX7_orderFinding_18 (5) (by decide) ?_
      exact g_ireturn F hR dX7_orderFinding_19 (pI_i (by unfold ofU; first | (rw [if_pos (by omega)]; done) | (rw [if_neg (by omega), if_pos (by omega)]; done) | (rw [if_neg (by omega), if_neg (by omega), if_neg (mm_no (P := fun j => mnN x (x 20 r j) ∧ x 6 (x 20 r j) 0 = -9 ∧ ocU x r j (x 20 r j) = 0) (j := j) (by omega) (by omega) (by omega))]; done) | (rw [show j = x 17 r 0 by omega] at hl; rw [if_neg (by omega), if_neg (by omega), if_pos hl])) rfl rfl)
  · skip
    refine g_iconst F dX7_orderFinding_7 (1) (by decide) ?_
    exact g_ireturn F hR dX7_orderFinding_8 (pI_i (by unfold ofU; first | (rw [if_pos (by omega)]; done) | (rw [if_neg (by omega), if_pos (by omega)]; done) | (rw [if_neg (by omega), if_neg (by omega), if_neg (mm_no (P := fun j => mnN x (x 20 r j) ∧ x 6 (x 20 r j) 0 = -9 ∧ ocU x r j (x 20 r j) = 0) (j := j) (by omega) (by omega) (by omega))]; done) | (rw [show j = x 17 r 0 by omega] at hl; rw [if_neg (by omega), if_neg (by omega), if_pos hl])) rfl rfl)

set_option maxRecDepth 20000 in
theorem c_X7_tried (l : Launch) (D : gD) (ad : gA) (x : gX) (y : gY) (r : Int) (hr : i32 r) (hV : INV x) : gC l D ad 4 yX7_tried cX7_tried 11 (some .int) [.ref (ad 7 (0)), .int (J (r))] x y (pI ((sTried x r).1) ((sTried x r).2) (y)) := by
  refine g_met RX7 rfl (by decide +kernel) [(0, .ref (ad 7 (0))), (1, .int (J (r)))] rfl (Nat.le_of_ble_eq_true rfl) (fun Θ F hR => ?_)
  obtain ⟨hN, hRW, hDD, hCU, hMS⟩ := hV
  refine g_aload_n F dX7_tried_0 rfl 0 rfl ?_
  refine g_iload_n F dX7_tried_1 rfl 1 rfl ?_
  refine g_callV 1 F (As := [.int (J (r))]) (st := []) (c_X7_rowRefusal l D ad x y (r) (by omega) (by omega)) (gR_7) rfl mk_X7_221 ki_X7_rowRefusal kc_X7_rowRefusal (by decide +kernel) rfl (by decide) dX7_tried_2 rfl (Nat.le_of_ble_eq_true rfl) (pI_k ?_)
  have hr1 := rRf_r x r
  refine g_istore_n F [(2, .int (J (rRf x (r)))), (0, .ref (ad 7 (0))), (1, .int (J (r)))] dX7_tried_5 rfl (by decide) rfl ?_
  refine g_iload_n F dX7_tried_6 rfl 0 rfl ?_
  refine g_if_eq 12 F dX7_tried_7 (by omega) rfl (fun c_1 => ?_) (fun c_1 => ?_)
  · skip
    have hq := rRf_0 c_1
    have hw := hRW (r) (by omega) (by omega)
    have hw2 : -1 ≤ x 17 (r) 0 ∧ x 17 (r) 0 ≤ 60 := by have := hw.1; split at this <;> omega
    refine g_aload_n F dX7_tried_12 rfl 1 rfl ?_
    refine gg_Day_rows F fk_X7_11 dX7_tried_13 ?_
    refine g_iload_n F dX7_tried_16 rfl 2 rfl ?_
    refine ga_30 F (by omega) dX7_tried_17 ?_
    refine g_astore_n F [(3, .ref (ad 6 (r))), (2, .int (J (rRf x (r)))), (0, .ref (ad 7 (0))), (1, .int (J (r)))] dX7_tried_18 rfl (by decide) rfl ?_
    refine g_aload_n F dX7_tried_19 rfl 2 rfl ?_
    refine g_aload_n F dX7_tried_20 rfl 0 rfl ?_
    refine g_callV 1 F (As := [.ref (ad 6 (r))]) (st := []) (c_X7_orderFinding l D ad x y (r) (by omega) (hN) (hw.1) (hw.2.1)) (gR_7) rfl mk_X7_228 ki_X7_orderFinding kc_X7_orderFinding (by decide +kernel) rfl (by decide) dX7_tried_21 rfl (Nat.le_of_ble_eq_true rfl) (pI_k ?_)
    have hof := ofU_r x r
    refine g_istore F [(4, .int (J (ofU x (r)))), (3, .ref (ad 6 (r))), (2, .int (J (rRf x (r)))), (0, .ref (ad 7 (0))), (1, .int (J (r)))] dX7_tried_24 (by decide) rfl ?_
    refine g_iload F dX7_tried_26 0 rfl ?_
    refine g_if_eq 38 F dX7_tried_28 (by omega) rfl (fun c_2 => ?_) (fun c_2 => ?_)
    · skip
      have ho := ofU_0 c_2
      refine g_iconst F dX7_tried_38 (0) (by decide) ?_
      refine g_istore F [(5, .int (J (0))), (4, .int (J (ofU x (r)))), (3, .ref (ad 6 (r))), (2, .int (J (rRf x (r)))), (0, .ref (ad 7 (0))), (1, .int (J (r)))] dX7_tried_39 (by decide) rfl ?_
      refine g_aload_n F dX7_tried_41 rfl 4 rfl ?_
      refine gg_Day_court F fk_X7_28 dX7_tried_42 ?_
      refine g_callV 0 F (As := []) (st := []) (c_X0_toldClean l D ad x y  (hN)) (gR_0) rfl mk_X7_231 ki_X0_toldClean kc_X0_toldClean (by decide +kernel) rfl (by decide) dX7_tried_45 rfl (Nat.le_of_ble_eq_true rfl) (pI_k ?_)
      refine g_istore F [(6, .int (J (tcU x))), (5, .int (J (0))), (4, .int (J (ofU x (r)))), (3, .ref (ad 6 (r))), (2, .int (J (rRf x (r)))), (0, .ref (ad 7 (0))), (1, .int (J (r)))] dX7_tried_48 (by decide) rfl ?_
      refine g_aload_n F dX7_tried_50 rfl 5 rfl ?_
      refine gg_Day_court F fk_X7_28 dX7_tried_51 ?_
      refine ggN_Court_heat F fk_X7_151 dX7_tried_54 ?_
      refine g_istore F [(7, .int (J (x 15 (0) (0)))), (6, .int (J (tcU x))), (5, .int (J (0))), (4, .int (J (ofU x (r)))), (3, .ref (ad 6 (r))), (2, .int (J (rRf x (r)))), (0, .ref (ad 7 (0))), (1, .int (J (r)))] dX7_tried_57 (by decide) rfl ?_
      refine g_iconst F dX7_tried_59 (0) (by decide) ?_
      refine g_istore F [(8, .int (J (0))), (7, .int (J (x 15 (0) (0)))), (6, .int (J (tcU x))), (5, .int (J (0))), (4, .int (J (ofU x (r)))), (3, .ref (ad 6 (r))), (2, .int (J (rRf x (r)))), (0, .ref (ad 7 (0))), (1, .int (J (r)))] dX7_tried_60 (by decide) rfl ?_
      have L62 : ∀ (N : Nat) (w : Int) (c : Int) (h : Int) (j : Int), 0 ≤ j ∧ j ≤ x 17 r 0 → (w, c, h) = evZ x (x 20 r) j → (x 17 r 0 - j).toNat < N → gW Θ l D ad 11 62 [(0, .ref (ad 7 (0))), (3, .ref (ad 6 (r))), (5, .int (J (w))), (6, .int (J (c))), (7, .int (J (h))), (8, .int (J (j)))] [] x y := by
        intro N
        induction N with
        | zero => intro w c h j hj ha hFu; omega
        | succ N ih62 =>
          intro w c h j hj ha hFu
          have her := evZ_r hN (x 20 r) hj.1
          rw [← ha] at her
          have her2 : (0 ≤ w ∧ w ≤ j) ∧ (0 ≤ c ∧ c ≤ 6 + j) ∧ 0 ≤ h ∧ h ≤ 30 := her
          refine g_iload F dX7_tried_62 5 rfl ?_
          refine g_aload_n F dX7_tried_64 rfl 1 rfl ?_
          refine ggN_Row_size F (by omega) fk_X7_83 dX7_tried_65 ?_
          refine g_icmp_ge 158 F dX7_tried_68 (by omega) (by omega) rfl (fun c_3 => ?_) (fun c_3 => ?_)
          · skip
            refine g_aload_n F dX7_tried_158 rfl 0 rfl ?_
            refine g_iload F dX7_tried_159 4 rfl ?_
            refine gp_Day_told F fk_X7_75 dX7_tried_161 ?_
            refine g_iload F dX7_tried_164 2 rfl ?_
            exact g_ireturn F hR dX7_tried_166 (pI_i (by unfold sTried; first | (rw [if_pos (by omega)]; done) | (rw [if_neg (by omega), if_pos (by omega)]; done) | (rw [show j = x 17 r 0 by omega] at ha; rw [if_neg (by omega), if_neg (by omega), ← ha])) (by unfold sTried; first | (rw [if_pos (by omega)]; done) | (rw [if_neg (by omega), if_pos (by omega)]; done) | (rw [show j = x 17 r 0 by omega] at ha; rw [if_neg (by omega), if_neg (by omega), ← ha])) rfl)
          · skip
            have hpj := ofP_at (by omega) ho.2.2 hj.1 (by omega)
            have hm := hN.2.2.2 (x 20 r j) (by omega) (by omega)
            have hv := vU_r x (x 20 r j) h
            refine g_aload_n F dX7_tried_71 rfl 0 rfl ?_
            refine gg_Day_court F fk_X7_28 dX7_tried_72 ?_
            refine ggN_Court_men F fk_X7_126 dX7_tried_75 ?_
            refine g_aload_n F dX7_tried_78 rfl 1 rfl ?_
            refine ggN_Row_places F (by omega) fk_X7_72 dX7_tried_79 ?_
            refine g_iload F dX7_tried_82 5 rfl ?_
            refine ga_20 F (by omega) (by omega) dX7_tried_84 ?_
            refine ga_32 F (by omega) dX7_tried_85 ?_
            refine g_astore F [(9, .ref (ad 3 ((x 20 (r) (j))))), (0, .ref (ad 7 (0))), (3, .ref (ad 6 (r))), (5, .int (J (w))), (6, .int (J (c))), (7, .int (J (h))), (8, .int (J (j)))] dX7_tried_86 (by decide) rfl ?_
            refine g_aload_n F dX7_tried_88 rfl 1 rfl ?_
            refine gg_Day_court F fk_X7_28 dX7_tried_89 ?_
            refine g_aload F dX7_tried_92 0 rfl ?_
            refine g_iload F dX7_tried_94 5 rfl ?_
            refine g_callV 2 F (As := [.ref (ad 3 ((x 20 (r) (j)))), .int (J (h))]) (st := []) (c_X0_verdict l D ad x y ((x 20 (r) (j))) (h) (by omega) (by omega) (hm) (by omega)) (gR_0) rfl mk_X7_200 ki_X0_verdict kc_X0_verdict (by decide +kernel) rfl (by decide) dX7_tried_96 rfl (Nat.le_of_ble_eq_true rfl) (pI_k ?_)
            refine g_istore F [(10, .int (J (vU x ((x 20 (r) (j))) (h)))), (9, .ref (ad 3 ((x 20 (r) (j))))), (0, .ref (ad 7 (0))), (3, .ref (ad 6 (r))), (5, .int (J (w))), (6, .int (J (c))), (7, .int (J (h))), (8, .int (J (j)))] dX7_tried_99 (by decide) rfl ?_
            refine g_iload F dX7_tried_101 4 rfl ?_
            refine g_aload F dX7_tried_103 1 rfl ?_
            refine g_iload F dX7_tried_105 0 rfl ?_
            refine g_callV 1 F (As := [.int (J (vU x ((x 20 (r) (j))) (h)))]) (st := [.int (J (w))]) (c_X3_wrongedBy l D ad x y ((x 20 (r) (j))) (vU x ((x 20 (r) (j))) (h)) (by omega) (hm) (by omega)) (gR_3 (by omega)) rfl mk_X7_234 ki_X3_wrongedBy kc_X3_wrongedBy (by decide +kernel) rfl (by decide) dX7_tried_107 rfl (Nat.le_of_ble_eq_true rfl) (pB_k ?_)
            refine g_ifb_eq 117 F dX7_tried_110 rfl (fun c_4 => ?_) (fun c_4 => ?_)
            · skip
              refine g_iconst F dX7_tried_117 (0) (by decide) ?_
              refine g_iadd F dX7_tried_118 ?_
              refine g_istore F [(5, .int (J ((w) + (0)))), (10, .int (J (vU x ((x 20 (r) (j))) (h)))), (9, .ref (ad 3 ((x 20 (r) (j))))), (0, .ref (ad 7 (0))), (3, .ref (ad 6 (r))), (6, .int (J (c))), (7, .int (J (h))), (8, .int (J (j)))] dX7_tried_119 (by decide) rfl ?_
              refine g_iload F dX7_tried_121 5 rfl ?_
              refine g_iload F dX7_tried_123 1 rfl ?_
              refine g_iconst F dX7_tried_125 (1) (by decide) ?_
              refine g_icmp_ne 133 F dX7_tried_126 (by omega) (by decide) rfl (fun c_5 => ?_) (fun c_5 => ?_)
              · skip
                refine g_iconst F dX7_tried_133 (0) (by decide) ?_
                refine g_iadd F dX7_tried_134 ?_
                refine g_istore F [(6, .int (J ((c) + (0)))), (5, .int (J ((w) + (0)))), (10, .int (J (vU x ((x 20 (r) (j))) (h)))), (9, .ref (ad 3 ((x 20 (r) (j))))), (0, .ref (ad 7 (0))), (3, .ref (ad 6 (r))), (7, .int (J (h))), (8, .int (J (j)))] dX7_tried_135 (by decide) rfl ?_
                refine g_aload_n F dX7_tried_137 rfl 4 rfl ?_
                refine gg_Day_court F fk_X7_28 dX7_tried_138 ?_
                refine g_iload F dX7_tried_141 2 rfl ?_
                refine g_iload F dX7_tried_143 0 rfl ?_
                refine g_iload F dX7_tried_145 6 rfl ?_
                refine g_callV 3 F (As := [.int (J (vU x ((x 20 (r) (j))) (h))), .int (J ((c) + (0))), .int (J (h))]) (st := []) (c_X0_heatBehind l D ad x y (vU x ((x 20 (r) (j))) (h)) ((c) + (0)) (h) (by omega) (by omega) (by omega) (by omega)) (gR_0) rfl mk_X7_237 ki_X0_heatBehind kc_X0_heatBehind (by decide +kernel) rfl (by decide) dX7_tried_147 rfl (Nat.le_of_ble_eq_true rfl) (pI_k ?_)
                refine g_istore F [(7, .int (J (sBeh (x 14 0 0) (vU x ((x 20 (r) (j))) (h)) ((c) + (0)) (h)))), (6, .int (J ((c) + (0)))), (5, .int (J ((w) + (0)))), (10, .int (J (vU x ((x 20 (r) (j))) (h)))), (9, .ref (ad 3 ((x 20 (r) (j))))), (0, .ref (ad 7 (0))), (3, .ref (ad 6 (r))), (8, .int (J (j)))] dX7_tried_150 (by decide) rfl ?_
                refine g_iinc F [(8, .int (J (j + 1))), (7, .int (J (sBeh (x 14 0 0) (vU x ((x 20 (r) (j))) (h)) ((c) + (0)) (h)))), (6, .int (J ((c) + (0)))), (5, .int (J ((w) + (0)))), (10, .int (J (vU x ((x 20 (r) (j))) (h)))), (9, .ref (ad 3 ((x 20 (r) (j))))), (0, .ref (ad 7 (0))), (3, .ref (ad 6 (r)))] 7 rfl dX7_tried_152 (by decide) rfl ?_
                refine g_goto F 62 dX7_tried_155 rfl ?_
                refine g_sub [6, 7, 3, 2, 1, 0] (lv' := [(0, .ref (ad 7 (0))), (3, .ref (ad 6 (r))), (5, .int (J ((w) + (0)))), (6, .int (J ((c) + (0)))), (7, .int (J (sBeh (x 14 0 0) (vU x ((x 20 (r) (j))) (h)) ((c) + (0)) (h)))), (8, .int (J (j + 1)))]) rfl ?_
                exact ih62 ((w) + (0)) ((c) + (0)) (sBeh (x 14 0 0) (vU x ((x 20 (r) (j))) (h)) ((c) + (0)) (h)) (j + 1) (by omega) (by rw [evZ_s _ _ hj.1, ← ha]; show _ = (w + (if sWr (x 2 (x 20 r j) 0) (vU x (x 20 r j) h) then 1 else 0), c + (if vU x (x 20 r j) h = 1 then 1 else 0), sBeh (x 14 0 0) (vU x (x 20 r j) h) (c + (if vU x (x 20 r j) h = 1 then 1 else 0)) h); (repeat' split) <;> first | rfl | (exfalso; omega)) (by omega)
              · skip
                refine g_iconst F dX7_tried_129 (1) (by decide) ?_
                refine g_goto F 134 dX7_tried_130 rfl ?_
                refine g_iadd F dX7_tried_134 ?_
                refine g_istore F [(6, .int (J ((c) + (1)))), (5, .int (J ((w) + (0)))), (10, .int (J (vU x ((x 20 (r) (j))) (h)))), (9, .ref (ad 3 ((x 20 (r) (j))))), (0, .ref (ad 7 (0))), (3, .ref (ad 6 (r))), (7, .int (J (h))), (8, .int (J (j)))] dX7_tried_135 (by decide) rfl ?_
                refine g_aload_n F dX7_tried_137 rfl 4 rfl ?_
                refine gg_Day_court F fk_X7_28 dX7_tried_138 ?_
                refine g_iload F dX7_tried_141 2 rfl ?_
                refine g_iload F dX7_tried_143 0 rfl ?_
                refine g_iload F dX7_tried_145 6 rfl ?_
                refine g_callV 3 F (As := [.int (J (vU x ((x 20 (r) (j))) (h))), .int (J ((c) + (1))), .int (J (h))]) (st := []) (c_X0_heatBehind l D ad x y (vU x ((x 20 (r) (j))) (h)) ((c) + (1)) (h) (by omega) (by omega) (by omega) (by omega)) (gR_0) rfl mk_X7_237 ki_X0_heatBehind kc_X0_heatBehind (by decide +kernel) rfl (by decide) dX7_tried_147 rfl (Nat.le_of_ble_eq_true rfl) (pI_k ?_)
                refine g_istore F [(7, .int (J (sBeh (x 14 0 0) (vU x ((x 20 (r) (j))) (h)) ((c) + (1)) (h)))), (6, .int (J ((c) + (1)))), (5, .int (J ((w) + (0)))), (10, .int (J (vU x ((x 20 (r) (j))) (h)))), (9, .ref (ad 3 ((x 20 (r) (j))))), (0, .ref (ad 7 (0))), (3, .ref (ad 6 (r))), (8, .int (J (j)))] dX7_tried_150 (by decide) rfl ?_
                refine g_iinc F [(8, .int (J (j + 1))), (7, .int (J (sBeh (x 14 0 0) (vU x ((x 20 (r) (j))) (h)) ((c) + (1)) (h)))), (6, .int (J ((c) + (1)))), (5, .int (J ((w) + (0)))), (10, .int (J (vU x ((x 20 (r) (j))) (h)))), (9, .ref (ad 3 ((x 20 (r) (j))))), (0, .ref (ad 7 (0))), (3, .ref (ad 6 (r)))] 7 rfl dX7_tried_152 (by decide) rfl ?_
                refine g_goto F 62 dX7_tried_155 rfl ?_
                refine g_sub [6, 7, 3, 2, 1, 0] (lv' := [(0, .ref (ad 7 (0))), (3, .ref (ad 6 (r))), (5, .int (J ((w) + (0)))), (6, .int (J ((c) + (1)))), (7, .int (J (sBeh (x 14 0 0) (vU x ((x 20 (r) (j))) (h)) ((c) + (1)) (h)))), (8, .int (J (j + 1)))]) rfl ?_
                exact ih62 ((w) + (0)) ((c) + (1)) (sBeh (x 14 0 0) (vU x ((x 20 (r) (j))) (h)) ((c) + (1)) (h)) (j + 1) (by omega) (by rw [evZ_s _ _ hj.1, ← ha]; show _ = (w + (if sWr (x 2 (x 20 r j) 0) (vU x (x 20 r j) h) then 1 else 0), c + (if vU x (x 20 r j) h = 1 then 1 else 0), sBeh (x 14 0 0) (vU x (x 20 r j) h) (c + (if vU x (x 20 r j) h = 1 then 1 else 0)) h); (repeat' split) <;> first | rfl | (exfalso; omega)) (by omega)
            · skip
              refine g_iconst F dX7_tried_113 (1) (by decide) ?_
              refine g_goto F 118 dX7_tried_114 rfl ?_
              refine g_iadd F dX7_tried_118 ?_
              refine g_istore F [(5, .int (J ((w) + (1)))), (10, .int (J (vU x ((x 20 (r) (j))) (h)))), (9, .ref (ad 3 ((x 20 (r) (j))))), (0, .ref (ad 7 (0))), (3, .ref (ad 6 (r))), (6, .int (J (c))), (7, .int (J (h))), (8, .int (J (j)))] dX7_tried_119 (by decide) rfl ?_
              refine g_iload F dX7_tried_121 5 rfl ?_
              refine g_iload F dX7_tried_123 1 rfl ?_
              refine g_iconst F dX7_tried_125 (1) (by decide) ?_
              refine g_icmp_ne 133 F dX7_tried_126 (by omega) (by decide) rfl (fun c_6 => ?_) (fun c_6 => ?_)
              · skip
                refine g_iconst F dX7_tried_133 (0) (by decide) ?_
                refine g_iadd F dX7_tried_134 ?_
                refine g_istore F [(6, .int (J ((c) + (0)))), (5, .int (J ((w) + (1)))), (10, .int (J (vU x ((x 20 (r) (j))) (h)))), (9, .ref (ad 3 ((x 20 (r) (j))))), (0, .ref (ad 7 (0))), (3, .ref (ad 6 (r))), (7, .int (J (h))), (8, .int (J (j)))] dX7_tried_135 (by decide) rfl ?_
                refine g_aload_n F dX7_tried_137 rfl 4 rfl ?_
                refine gg_Day_court F fk_X7_28 dX7_tried_138 ?_
                refine g_iload F dX7_tried_141 2 rfl ?_
                refine g_iload F dX7_tried_143 0 rfl ?_
                refine g_iload F dX7_tried_145 6 rfl ?_
                refine g_callV 3 F (As := [.int (J (vU x ((x 20 (r) (j))) (h))), .int (J ((c) + (0))), .int (J (h))]) (st := []) (c_X0_heatBehind l D ad x y (vU x ((x 20 (r) (j))) (h)) ((c) + (0)) (h) (by omega) (by omega) (by omega) (by omega)) (gR_0) rfl mk_X7_237 ki_X0_heatBehind kc_X0_heatBehind (by decide +kernel) rfl (by decide) dX7_tried_147 rfl (Nat.le_of_ble_eq_true rfl) (pI_k ?_)
                refine g_istore F [(7, .int (J (sBeh (x 14 0 0) (vU x ((x 20 (r) (j))) (h)) ((c) + (0)) (h)))), (6, .int (J ((c) + (0)))), (5, .int (J ((w) + (1)))), (10, .int (J (vU x ((x 20 (r) (j))) (h)))), (9, .ref (ad 3 ((x 20 (r) (j))))), (0, .ref (ad 7 (0))), (3, .ref (ad 6 (r))), (8, .int (J (j)))] dX7_tried_150 (by decide) rfl ?_
                refine g_iinc F [(8, .int (J (j + 1))), (7, .int (J (sBeh (x 14 0 0) (vU x ((x 20 (r) (j))) (h)) ((c) + (0)) (h)))), (6, .int (J ((c) + (0)))), (5, .int (J ((w) + (1)))), (10, .int (J (vU x ((x 20 (r) (j))) (h)))), (9, .ref (ad 3 ((x 20 (r) (j))))), (0, .ref (ad 7 (0))), (3, .ref (ad 6 (r)))] 7 rfl dX7_tried_152 (by decide) rfl ?_
                refine g_goto F 62 dX7_tried_155 rfl ?_
                refine g_sub [6, 7, 3, 2, 1, 0] (lv' := [(0, .ref (ad 7 (0))), (3, .ref (ad 6 (r))), (5, .int (J ((w) + (1)))), (6, .int (J ((c) + (0)))), (7, .int (J (sBeh (x 14 0 0) (vU x ((x 20 (r) (j))) (h)) ((c) + (0)) (h)))), (8, .int (J (j + 1)))]) rfl ?_
                exact ih62 ((w) + (1)) ((c) + (0)) (sBeh (x 14 0 0) (vU x ((x 20 (r) (j))) (h)) ((c) + (0)) (h)) (j + 1) (by omega) (by rw [evZ_s _ _ hj.1, ← ha]; show _ = (w + (if sWr (x 2 (x 20 r j) 0) (vU x (x 20 r j) h) then 1 else 0), c + (if vU x (x 20 r j) h = 1 then 1 else 0), sBeh (x 14 0 0) (vU x (x 20 r j) h) (c + (if vU x (x 20 r j) h = 1 then 1 else 0)) h); (repeat' split) <;> first | rfl | (exfalso; omega)) (by omega)
              · skip
                refine g_iconst F dX7_tried_129 (1) (by decide) ?_
                refine g_goto F 134 dX7_tried_130 rfl ?_
                refine g_iadd F dX7_tried_134 ?_
                refine g_istore F [(6, .int (J ((c) + (1)))), (5, .int (J ((w) + (1)))), (10, .int (J (vU x ((x 20 (r) (j))) (h)))), (9, .ref (ad 3 ((x 20 (r) (j))))), (0, .ref (ad 7 (0))), (3, .ref (ad 6 (r))), (7, .int (J (h))), (8, .int (J (j)))] dX7_tried_135 (by decide) rfl ?_
                refine g_aload_n F dX7_tried_137 rfl 4 rfl ?_
                refine gg_Day_court F fk_X7_28 dX7_tried_138 ?_
                refine g_iload F dX7_tried_141 2 rfl ?_
                refine g_iload F dX7_tried_143 0 rfl ?_
                refine g_iload F dX7_tried_145 6 rfl ?_
                refine g_callV 3 F (As := [.int (J (vU x ((x 20 (r) (j))) (h))), .int (J ((c) + (1))), .int (J (h))]) (st := []) (c_X0_heatBehind l D ad x y (vU x ((x 20 (r) (j))) (h)) ((c) + (1)) (h) (by omega) (by omega) (by omega) (by omega)) (gR_0) rfl mk_X7_237 ki_X0_heatBehind kc_X0_heatBehind (by decide +kernel) rfl (by decide) dX7_tried_147 rfl (Nat.le_of_ble_eq_true rfl) (pI_k ?_)
                refine g_istore F [(7, .int (J (sBeh (x 14 0 0) (vU x ((x 20 (r) (j))) (h)) ((c) + (1)) (h)))), (6, .int (J ((c) + (1)))), (5, .int (J ((w) + (1)))), (10, .int (J (vU x ((x 20 (r) (j))) (h)))), (9, .ref (ad 3 ((x 20 (r) (j))))), (0, .ref (ad 7 (0))), (3, .ref (ad 6 (r))), (8, .int (J (j)))] dX7_tried_150 (by decide) rfl ?_
                refine g_iinc F [(8, .int (J (j + 1))), (7, .int (J (sBeh (x 14 0 0) (vU x ((x 20 (r) (j))) (h)) ((c) + (1)) (h)))), (6, .int (J ((c) + (1)))), (5, .int (J ((w) + (1)))), (10, .int (J (vU x ((x 20 (r) (j))) (h)))), (9, .ref (ad 3 ((x 20 (r) (j))))), (0, .ref (ad 7 (0))), (3, .ref (ad 6 (r)))] 7 rfl dX7_tried_152 (by decide) rfl ?_
                refine g_goto F 62 dX7_tried_155 rfl ?_
                refine g_sub [6, 7, 3, 2, 1, 0] (lv' := [(0, .ref (ad 7 (0))), (3, .ref (ad 6 (r))), (5, .int (J ((w) + (1)))), (6, .int (J ((c) + (1)))), (7, .int (J (sBeh (x 14 0 0) (vU x ((x 20 (r) (j))) (h)) ((c) + (1)) (h)))), (8, .int (J (j + 1)))]) rfl ?_
                exact ih62 ((w) + (1)) ((c) + (1)) (sBeh (x 14 0 0) (vU x ((x 20 (r) (j))) (h)) ((c) + (1)) (h)) (j + 1) (by omega) (by rw [evZ_s _ _ hj.1, ← ha]; show _ = (w + (if sWr (x 2 (x 20 r j) 0) (vU x (x 20 r j) h) then 1 else 0), c + (if vU x (x 20 r j) h = 1 then 1 else 0), sBeh (x 14 0 0) (vU x (x 20 r j) h) (c + (if vU x (x 20 r j) h = 1 then 1 else 0)) h); (repeat' split) <;> first | rfl | (exfalso; omega)) (by omega)
      refine g_sub [7, 5, 3, 2, 1, 0] (lv' := [(0, .ref (ad 7 (0))), (3, .ref (ad 6 (r))), (5, .int (J (0))), (6, .int (J (tcU x))), (7, .int (J (x 15 (0) (0)))), (8, .int (J (0)))]) rfl ?_
      exact L62 _ (0) (tcU x) (x 15 (0) (0)) (0) (by omega) (rfl) (Nat.lt_succ_self _)
    · skip
      refine g_aload_n F dX7_tried_31 rfl 3 rfl ?_
      refine g_iload F dX7_tried_32 0 rfl ?_
      refine g_callV 1 F (As := [.int (J (ofU x (r)))]) (st := []) (c_X7_found l D ad x y (ofU x (r)) (by omega)) (gR_7) rfl mk_X7_90 ki_X7_found kc_X7_found (by decide +kernel) rfl (by decide) dX7_tried_34 rfl (Nat.le_of_ble_eq_true rfl) (pI_k ?_)
      exact g_ireturn F hR dX7_tried_37 (pI_i (by unfold sTried; first | (rw [if_pos (by omega)]; done) | (rw [if_neg (by omega), if_pos (by omega)]; done) | (rw [show j = x 17 r 0 by omega] at ha; rw [if_neg (by omega), if_neg (by omega), ← ha])) (by unfold sTried; first | (rw [if_pos (by omega)]; done) | (rw [if_neg (by omega), if_pos (by omega)]; done) | (rw [show j = x 17 r 0 by omega] at ha; rw [if_neg (by omega), if_neg (by omega), ← ha])) rfl)
  · skip
    refine g_iload_n F dX7_tried_10 rfl 0 rfl ?_
    exact g_ireturn F hR dX7_tried_11 (pI_i (by unfold sTried; first | (rw [if_pos (by omega)]; done) | (rw [if_neg (by omega), if_pos (by omega)]; done) | (rw [show j = x 17 r 0 by omega] at ha; rw [if_neg (by omega), if_neg (by omega), ← ha])) (by unfold sTried; first | (rw [if_pos (by omega)]; done) | (rw [if_neg (by omega), if_pos (by omega)]; done) | (rw [show j = x 17 r 0 by omega] at ha; rw [if_neg (by omega), if_neg (by omega), ← ha])) rfl)
