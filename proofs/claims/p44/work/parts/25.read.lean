theorem irP_r (t : Int → Int) (n p : Int) : p ≤ irP t n p ∧ (irP t n p = p + 5 → p + 5 ≤ n) := by unfold irP; (repeat' split) <;> omega
theorem mnP_r (t : Int → Int) (n p : Int) : p ≤ mnP t n p ∧ (mnP t n p = p + 4 → p + 4 ≤ n) := by unfold mnP; (repeat' split) <;> omega
theorem rdN_end {t : Int → Int} {n i : Int} (h : n ≤ qP t n i) : ∀ k : Nat, rdN t n k i = if 0 < i then -9 else qP t n i
  | 0 => by show (if n ≤ qP t n i then _ else _) = _; rw [if_pos h]
  | k + 1 => by show (if n ≤ qP t n i then _ else _) = _; rw [if_pos h]
theorem rcN_end {t : Int → Int} {n i : Int} (h : n ≤ qP t n i) : ∀ k : Nat, rcN t n k i = i
  | 0 => rfl
  | k + 1 => by show (if n ≤ qP t n i then _ else _) = _; rw [if_pos h]
theorem rdN_go {t : Int → Int} {n i : Int} (h : ¬ n ≤ qP t n i) (hm : mnP t n (qP t n i) = qP t n i + 4) (k : Nat) : rdN t n (k + 1) i = rdN t n k (i + 1) := by
  show (if n ≤ qP t n i then _ else if mnP t n (qP t n i) = qP t n i + 4 then _ else _) = _
  rw [if_neg h, if_pos hm]
theorem rcN_go {t : Int → Int} {n i : Int} (h : ¬ n ≤ qP t n i) (hm : mnP t n (qP t n i) = qP t n i + 4) (k : Nat) : rcN t n (k + 1) i = rcN t n k (i + 1) := by
  show (if n ≤ qP t n i then _ else if mnP t n (qP t n i) = qP t n i + 4 then _ else _) = _
  rw [if_neg h, if_pos hm]
theorem rdN_no {t : Int → Int} {n i : Int} (h : ¬ n ≤ qP t n i) (hm : mnP t n (qP t n i) ≠ qP t n i + 4) (k : Nat) : rdN t n (k + 1) i = mnP t n (qP t n i) := by
  show (if n ≤ qP t n i then _ else if mnP t n (qP t n i) = qP t n i + 4 then _ else _) = _
  rw [if_neg h, if_neg hm]
theorem rdN_z {t : Int → Int} {n i : Int} (h : ¬ n ≤ qP t n i) : rdN t n 0 i = qP t n i := by
  show (if n ≤ qP t n i then _ else _) = _
  rw [if_neg h]
theorem rN_0 (t : Int → Int) (n : Int) {i : Int} (h : 0 ≤ i) : rN t n (4 + 4 * i) = kdO (t (qP t n i)) := by
  unfold rN
  rw [if_neg (by omega), if_pos (by omega), show (4 + 4 * i - 4) / 4 = i by omega]
theorem rN_k (t : Int → Int) (n : Int) {i k : Int} (h : 0 ≤ i) (hk : 1 ≤ k ∧ k ≤ 3) : rN t n (4 + 4 * i + k) = t (qP t n i + k) - 48 := by
  unfold rN
  rw [if_neg (by omega), if_neg (by omega), show (4 + 4 * i + k - 4) / 4 = i by omega, show (4 + 4 * i + k - 4) % 4 = k by omega]
theorem RS_0 (x : gX) (r : Int) : RS x r (xU (xU (xU x 35 (0) (0) (0)) 36 (0) (0) (0)) 37 (0) (0) (0)) 0 0 0 :=
  ⟨fun k h1 h2 h3 h4 => by rw [xU_k h4, xU_k h3, xU_k h2], rfl, rfl, rfl, fun j h0 h1 => by omega⟩
theorem RS_pass {x0 : gX} {r : Int} {u : gX} {c p m : Int} (h : RS x0 r u c p m) : RS x0 r (xU u 37 0 0 (sk (u 20 r) (u 17 r 0) (u 37 0 0))) c (sk (x0 20 r) (x0 17 r 0) p) m := by
  rw [h.1 20 (by decide) (by decide) (by decide) (by decide), h.1 17 (by decide) (by decide) (by decide) (by decide), h.2.2.1]
  exact RS_skip h
/-- the reader's loop: u the memory, w whether it goes well, at the j-th man -/
def RI (x : gX) (r : Int) (u : gX) (w j : Int) : Prop :=
  (w = 1 ∧ (j ≤ 6 ∧ 0 ≤ eP (x 20 r) (x 17 r 0) j ∧ eP (x 20 r) (x 17 r 0) j ≤ x 17 r 0) ∧ RS x r u (4 + 4 * j) (eP (x 20 r) (x 17 r 0) j) j ∧ rdF (x 20 r) (x 17 r 0) = rdN (x 20 r) (x 17 r 0) (6 - j).toNat j ∧ rcF (x 20 r) (x 17 r 0) = rcN (x 20 r) (x 17 r 0) (6 - j).toNat j) ∨
  (w = 0 ∧ RF x u (rdF (x 20 r) (x 17 r 0)) ∧ 0 ≤ rdF (x 20 r) (x 17 r 0))
theorem RI_w {x : gX} {r : Int} {u : gX} {w j : Int} (h : RI x r u w j) : w = 0 ∨ w = 1 := by rcases h with h | h <;> omega
theorem RI_0 {x : gX} {r : Int} {u : gX} {w j : Int} (h : RI x r u w j) (hw : w = 0) : RF x u (rdF (x 20 r) (x 17 r 0)) ∧ 0 ≤ rdF (x 20 r) (x 17 r 0) := by
  rcases h with h | h
  · omega
  · exact h.2
theorem RI_1 {x : gX} {r : Int} {u : gX} {w j : Int} (h : RI x r u w j) (hw : w ≠ 0) : (j ≤ 6 ∧ 0 ≤ eP (x 20 r) (x 17 r 0) j ∧ eP (x 20 r) (x 17 r 0) j ≤ x 17 r 0) ∧ RS x r u (4 + 4 * j) (eP (x 20 r) (x 17 r 0) j) j ∧ rdF (x 20 r) (x 17 r 0) = rdN (x 20 r) (x 17 r 0) (6 - j).toNat j ∧ rcF (x 20 r) (x 17 r 0) = rcN (x 20 r) (x 17 r 0) (6 - j).toNat j := by
  rcases h with h | h
  · exact h.2
  · omega
theorem RI_i {x : gX} {r : Int} {u : gX} (hn : 0 ≤ x 17 r 0) (h1 : irP (x 20 r) (x 17 r 0) (sk (x 20 r) (x 17 r 0) 0) = sk (x 20 r) (x 17 r 0) 0 + 5 → RS x r u 4 (sk (x 20 r) (x 17 r 0) 0 + 5) 0) (h2 : irP (x 20 r) (x 17 r 0) (sk (x 20 r) (x 17 r 0) 0) ≠ sk (x 20 r) (x 17 r 0) 0 + 5 → RF x u (irP (x 20 r) (x 17 r 0) (sk (x 20 r) (x 17 r 0) 0))) : RI x r u (if irP (x 20 r) (x 17 r 0) (sk (x 20 r) (x 17 r 0) 0) = sk (x 20 r) (x 17 r 0) 0 + 5 then 1 else 0) 0 := by
  have a := sk_r (x 20 r) (x 17 r 0) 0
  have b := irP_r (x 20 r) (x 17 r 0) (sk (x 20 r) (x 17 r 0) 0)
  have e0 : eP (x 20 r) (x 17 r 0) 0 = sk (x 20 r) (x 17 r 0) 0 + 5 := rfl
  by_cases q : irP (x 20 r) (x 17 r 0) (sk (x 20 r) (x 17 r 0) 0) = sk (x 20 r) (x 17 r 0) 0 + 5
  · rw [if_pos q]
    refine Or.inl ⟨rfl, ⟨by decide, by omega, by have := b.2 q; omega⟩, ?_, ?_, rfl⟩
    · rw [e0]; exact h1 q
    · unfold rdF; rw [if_pos q]; rfl
  · rw [if_neg q]
    have e : rdF (x 20 r) (x 17 r 0) = irP (x 20 r) (x 17 r 0) (sk (x 20 r) (x 17 r 0) 0) := by unfold rdF; rw [if_neg q]
    exact Or.inr ⟨rfl, by rw [e]; exact h2 q, by omega⟩
theorem RI_s1 {x : gX} {r : Int} {u : gX} {j : Int} (hj : 0 ≤ j ∧ j < 6) (h0 : 0 ≤ qP (x 20 r) (x 17 r 0) j) (hq : ¬ x 17 r 0 ≤ qP (x 20 r) (x 17 r 0) j) (e1 : rdF (x 20 r) (x 17 r 0) = rdN (x 20 r) (x 17 r 0) (6 - j).toNat j) (e2 : rcF (x 20 r) (x 17 r 0) = rcN (x 20 r) (x 17 r 0) (6 - j).toNat j) (hm : mnP (x 20 r) (x 17 r 0) (qP (x 20 r) (x 17 r 0) j) = qP (x 20 r) (x 17 r 0) j + 4) (hu : RS x r u (4 + 4 * j + 4) (qP (x 20 r) (x 17 r 0) j + 4) (j + 1)) : RI x r u 1 (j + 1) := by
  have e := eP_s (x 20 r) (x 17 r 0) hj.1
  have b := (mnP_r (x 20 r) (x 17 r 0) (qP (x 20 r) (x 17 r 0) j)).2 hm
  refine Or.inl ⟨rfl, ⟨by omega, by omega, by omega⟩, RS_eq hu (by omega) (by omega) rfl, ?_, ?_⟩
  · rw [e1, show (6 - j).toNat = (6 - (j + 1)).toNat + 1 by omega, rdN_go hq hm]
  · rw [e2, show (6 - j).toNat = (6 - (j + 1)).toNat + 1 by omega, rcN_go hq hm]
theorem RI_s0 {x : gX} {r : Int} {u : gX} {j : Int} (hj : 0 ≤ j ∧ j < 6) (h0 : 0 ≤ qP (x 20 r) (x 17 r 0) j) (hq : ¬ x 17 r 0 ≤ qP (x 20 r) (x 17 r 0) j) (e1 : rdF (x 20 r) (x 17 r 0) = rdN (x 20 r) (x 17 r 0) (6 - j).toNat j) (hm : mnP (x 20 r) (x 17 r 0) (qP (x 20 r) (x 17 r 0) j) ≠ qP (x 20 r) (x 17 r 0) j + 4) (hu : RF x u (mnP (x 20 r) (x 17 r 0) (qP (x 20 r) (x 17 r 0) j))) : RI x r u 0 (j + 1) := by
  have e : rdF (x 20 r) (x 17 r 0) = mnP (x 20 r) (x 17 r 0) (qP (x 20 r) (x 17 r 0) j) := by rw [e1, show (6 - j).toNat = (6 - (j + 1)).toNat + 1 by omega, rdN_no hq hm]
  have b := (mnP_r (x 20 r) (x 17 r 0) (qP (x 20 r) (x 17 r 0) j)).1
  exact Or.inr ⟨rfl, by rw [e]; exact hu, by omega⟩
theorem RI_s6 {x : gX} {r : Int} {u : gX} {j c m : Int} (hj : 6 ≤ j ∧ j ≤ 6) (h0 : 0 ≤ qP (x 20 r) (x 17 r 0) j) (hq : ¬ x 17 r 0 ≤ qP (x 20 r) (x 17 r 0) j) (e1 : rdF (x 20 r) (x 17 r 0) = rdN (x 20 r) (x 17 r 0) (6 - j).toNat j) (hu : RS x r u c (qP (x 20 r) (x 17 r 0) j) m) : RI x r u 0 (j + 1) := by
  have e : rdF (x 20 r) (x 17 r 0) = qP (x 20 r) (x 17 r 0) j := by rw [e1, show (6 - j).toNat = 0 by omega, rdN_z hq]
  exact Or.inr ⟨rfl, by rw [e]; exact RS_RF hu rfl, by omega⟩
/-- what is known behind a reading -/
def RD (x : gX) (r : Int) (u : gX) : Prop := (∀ k : Int, k ≠ 23 → k ≠ 35 → k ≠ 36 → k ≠ 37 → u k = x k) ∧ (rdF (x 20 r) (x 17 r 0) = -9 → u 36 0 0 = rcF (x 20 r) (x 17 r 0) ∧ (1 ≤ rcF (x 20 r) (x 17 r 0) ∧ rcF (x 20 r) (x 17 r 0) ≤ 6) ∧ ∀ j : Int, 0 ≤ j → j < 4 + 4 * rcF (x 20 r) (x 17 r 0) → u 23 0 j = rN (x 20 r) (x 17 r 0) j)
theorem RD_f {x : gX} {r : Int} {u : gX} {p : Int} (h : RF x u p) (h0 : 0 ≤ rdF (x 20 r) (x 17 r 0)) : RD x r u := ⟨h.1, fun q => by omega⟩
theorem RD_s {x : gX} {r : Int} {u : gX} {p j : Int} (hj : 0 ≤ j ∧ j ≤ 6) (h : RS x r u (4 + 4 * j) p j) (h0 : 0 ≤ qP (x 20 r) (x 17 r 0) j) (hq : x 17 r 0 ≤ qP (x 20 r) (x 17 r 0) j) (e1 : rdF (x 20 r) (x 17 r 0) = rdN (x 20 r) (x 17 r 0) (6 - j).toNat j) (e2 : rcF (x 20 r) (x 17 r 0) = rcN (x 20 r) (x 17 r 0) (6 - j).toNat j) : RD x r u := by
  rw [rcN_end hq] at e2
  rw [rdN_end hq] at e1
  refine ⟨h.1, fun q => ?_⟩
  rw [e2]
  have : 0 < j := by
    rw [e1] at q
    split at q
    · assumption
    · omega
  exact ⟨h.2.2.2.1, by omega, h.2.2.2.2⟩
set_option maxRecDepth 20000 in
theorem c_X5_read (l : Launch) (D : gD) (ad : gA) (x : gX) (y : gY) (r : Int) (hr : 0 ≤ r ∧ r < 10) (hn : (0 ≤ x 17 r 0 ∧ x 17 r 0 ≤ 60) ∧ x 17 r 0 ≤ (if r < 6 then 40 else 60)) (ht : ∀ j : Int, -128 ≤ x 20 r j ∧ x 20 r j ≤ 127) : gC l D ad 3 yX5_read cX5_read 4 (some .int) [.ref (ad 5 (0)), .ref (ad 6 (r))] x y (pG (.int (J (rdF (x 20 r) (x 17 r 0)))) (RD x r) (y)) := by
  refine g_met RX5 rfl (by decide +kernel) [(0, .ref (ad 5 (0))), (1, .ref (ad 6 (r)))] rfl (Nat.le_of_ble_eq_true rfl) (fun Θ F hR => ?_)
  have hk := sk_r (x 20 r) (x 17 r 0) 0
  refine g_aload_n F dX5_read_0 rfl 0 rfl ?_
  refine g_iconst F dX5_read_1 (0) (by decide) ?_
  refine gp_Reader_taken F fk_X5_15 dX5_read_2 ?_
  refine g_aload_n F dX5_read_5 rfl 0 rfl ?_
  refine g_iconst F dX5_read_6 (0) (by decide) ?_
  refine gp_Reader_men F fk_X5_19 dX5_read_7 ?_
  refine g_aload_n F dX5_read_10 rfl 0 rfl ?_
  refine g_iconst F dX5_read_11 (0) (by decide) ?_
  refine gp_Reader_place F fk_X5_22 dX5_read_12 ?_
  refine g_aload_n F dX5_read_15 rfl 0 rfl ?_
  refine g_aload_n F dX5_read_16 rfl 1 rfl ?_
  refine g_callV 1 F (As := [.ref (ad 6 (r))]) (st := []) (c_X5_passBlanks l D ad (xU (xU (xU x 35 (0) (0) (0)) 36 (0) (0) (0)) 37 (0) (0) (0)) y (r) (by omega) (hn) (ht) (by rw [xU_same]; decide)) (gR_5) rfl mk_X5_25 ki_X5_passBlanks kc_X5_passBlanks (by decide +kernel) rfl (by decide) dX5_read_17 rfl (Nat.le_of_ble_eq_true rfl) (pV_k ?_)
  refine g_aload_n F dX5_read_20 rfl 0 rfl ?_
  refine g_aload_n F dX5_read_21 rfl 1 rfl ?_
  refine g_callV 1 F (As := [.ref (ad 6 (r))]) (st := []) (c_X5_takeIron l D ad (xU (xU (xU (xU x 35 (0) (0) (0)) 36 (0) (0) (0)) 37 (0) (0) (0)) 37 0 0 (sk ((xU (xU (xU x 35 (0) (0) (0)) 36 (0) (0) (0)) 37 (0) (0) (0)) 20 (r)) ((xU (xU (xU x 35 (0) (0) (0)) 36 (0) (0) (0)) 37 (0) (0) (0)) 17 (r) 0) ((xU (xU (xU x 35 (0) (0) (0)) 36 (0) (0) (0)) 37 (0) (0) (0)) 37 0 0))) y (x) (r) (sk (x 20 r) (x 17 r 0) 0) (by omega) (RS_pass (RS_0 x r)) (by omega) (hn) (ht) (rfl)) (gR_5) rfl mk_X5_29 ki_X5_takeIron kc_X5_takeIron (by decide +kernel) rfl (by decide) dX5_read_22 rfl (Nat.le_of_ble_eq_true rfl) (pG_k (fun u_22 hG_22 => ?_))
  refine g_istore_n F [(2, .int (J (if irP ((x) 20 (r)) ((x) 17 (r) 0) (sk (x 20 r) (x 17 r 0) 0) = (sk (x 20 r) (x 17 r 0) 0) + 5 then 1 else 0))), (0, .ref (ad 5 (0))), (1, .ref (ad 6 (r)))] dX5_read_25 rfl (by decide) rfl ?_
  refine g_iconst F dX5_read_26 (0) (by decide) ?_
  refine g_istore_n F [(3, .int (J (0))), (2, .int (J (if irP ((x) 20 (r)) ((x) 17 (r) 0) (sk (x 20 r) (x 17 r 0) 0) = (sk (x 20 r) (x 17 r 0) 0) + 5 then 1 else 0))), (0, .ref (ad 5 (0))), (1, .ref (ad 6 (r)))] dX5_read_27 rfl (by decide) rfl ?_
  have L28 : ∀ (N : Nat) (u : gX) (w : Int) (j : Int), 0 ≤ j ∧ j ≤ 7 → RI x r u w j → (7 - j).toNat < N → gW Θ l D ad 4 28 [(0, .ref (ad 5 (0))), (1, .ref (ad 6 (r))), (2, .int (J (w))), (3, .int (J (j)))] [] u y := by
    intro N
    induction N with
    | zero => intro u w j hj hw hFu; omega
    | succ N ih28 =>
      intro u w j hj hw hFu
      have hw01 := RI_w hw
      refine g_iload_n F dX5_read_28 rfl 2 rfl ?_
      refine g_if_eq 97 F dX5_read_29 (by omega) rfl (fun c_1 => ?_) (fun c_1 => ?_)
      · skip
        have hF := RI_0 hw c_1
        have hir : rdF (x 20 r) (x 17 r 0) ≤ 2000 ∨ 2000 < rdF (x 20 r) (x 17 r 0) := by omega
        refine g_aload_n F dX5_read_97 rfl 0 rfl ?_
        refine gg_Reader_place F fk_X5_22 dX5_read_98 ?_
        refine g_topi (b := rdF (x 20 r) (x 17 r 0)) (hF.1.2) ?_
        exact g_ireturn F hR dX5_read_101 (pG_z (by first | rfl | (rw [e1, rdN_end (by omega)]; split <;> omega)) (by exact RD_f hF.1 hF.2) rfl)
      · skip
        obtain ⟨hp, hS, e1, e2⟩ := RI_1 hw c_1
        refine g_iload_n F dX5_read_32 rfl 3 rfl ?_
        refine g_bipush F dX5_read_33 (6) (by decide) ?_
        refine g_icmp_gt 97 F dX5_read_35 (by omega) (by decide) rfl (fun c_2 => ?_) (fun c_2 => ?_)
        · skip
          exfalso; omega
        · skip
          refine g_aload_n F dX5_read_38 rfl 0 rfl ?_
          refine g_aload_n F dX5_read_39 rfl 1 rfl ?_
          refine g_callV 1 F (As := [.ref (ad 6 (r))]) (st := []) (c_X5_passBlanks l D ad u y (r) (by omega) (by rw [hS.1 17 (by decide) (by decide) (by decide) (by decide)]; exact hn) (by intro q; rw [hS.1 20 (by decide) (by decide) (by decide) (by decide)]; exact ht q) (by rw [hS.2.2.1]; omega)) (gR_5) rfl mk_X5_25 ki_X5_passBlanks kc_X5_passBlanks (by decide +kernel) rfl (by decide) dX5_read_40 rfl (Nat.le_of_ble_eq_true rfl) (pV_k ?_)
          have hQ : RS x r (xU u 37 0 0 (sk (u 20 r) (u 17 r 0) (u 37 0 0))) (4 + 4 * j) (qP (x 20 r) (x 17 r 0) j) j := RS_pass hS
          have hqr : eP (x 20 r) (x 17 r 0) j ≤ qP (x 20 r) (x 17 r 0) j ∧ (eP (x 20 r) (x 17 r 0) j ≤ x 17 r 0 → qP (x 20 r) (x 17 r 0) j ≤ x 17 r 0) := sk_r (x 20 r) (x 17 r 0) (eP (x 20 r) (x 17 r 0) j)
          refine g_aload_n F dX5_read_43 rfl 0 rfl ?_
          refine gg_Reader_place F fk_X5_22 dX5_read_44 ?_
          refine g_topi (b := qP (x 20 r) (x 17 r 0) j) (hQ.2.2.1) ?_
          refine g_aload_n F dX5_read_47 rfl 1 rfl ?_
          refine ggN_Row_size F (by omega) fk_X5_33 dX5_read_48 ?_
          refine g_topi (b := x 17 r 0) (by rw [hQ.1 17 (by decide) (by decide) (by decide) (by decide)]) ?_
          refine g_icmp_ne 71 F dX5_read_51 (by omega) (by omega) rfl (fun c_3 => ?_) (fun c_3 => ?_)
          · skip
            refine g_iload_n F dX5_read_71 rfl 3 rfl ?_
            refine g_bipush F dX5_read_72 (6) (by decide) ?_
            refine g_icmp_ge 89 F dX5_read_74 (by omega) (by decide) rfl (fun c_4 => ?_) (fun c_4 => ?_)
            · skip
              refine g_iconst F dX5_read_89 (0) (by decide) ?_
              refine g_istore_n F [(2, .int (J (0))), (0, .ref (ad 5 (0))), (1, .ref (ad 6 (r))), (3, .int (J (j)))] dX5_read_90 rfl (by decide) rfl ?_
              refine g_iinc F [(3, .int (J (j + 1))), (2, .int (J (0))), (0, .ref (ad 5 (0))), (1, .ref (ad 6 (r)))] 3 rfl dX5_read_91 (by decide) rfl ?_
              refine g_goto F 28 dX5_read_94 rfl ?_
              refine g_sub [2, 3, 1, 0] (lv' := [(0, .ref (ad 5 (0))), (1, .ref (ad 6 (r))), (2, .int (J (0))), (3, .int (J (j + 1)))]) rfl ?_
              exact ih28 ((xU u 37 0 0 (sk (u 20 (r)) (u 17 (r) 0) (u 37 0 0)))) (0) (j + 1) (by omega) (by first | exact RI_s6 (by omega) (by omega) (by omega) e1 hQ | exact RI_s0 (by omega) (by omega) (by omega) e1 (by omega) (hG_79.2 (by omega)) | exact RI_s1 (by omega) (by omega) (by omega) e1 e2 (by omega) (hG_79.1 (by omega))) (by omega)
            · skip
              refine g_aload_n F dX5_read_77 rfl 0 rfl ?_
              refine g_aload_n F dX5_read_78 rfl 1 rfl ?_
              refine g_callV 1 F (As := [.ref (ad 6 (r))]) (st := []) (c_X5_takeMan l D ad (xU u 37 0 0 (sk (u 20 (r)) (u 17 (r) 0) (u 37 0 0))) y (x) (r) (4 + 4 * j) (qP (x 20 r) (x 17 r 0) j) (j) (by omega) (hQ) (by omega) (by omega) (by omega) (hn) (ht) (rN_0 _ _ hj.1) (rN_k _ _ hj.1 (by decide)) (rN_k _ _ hj.1 (by decide)) (rN_k _ _ hj.1 (by decide))) (gR_5) rfl mk_X5_38 ki_X5_takeMan kc_X5_takeMan (by decide +kernel) rfl (by decide) dX5_read_79 rfl (Nat.le_of_ble_eq_true rfl) (pG_k (fun u_79 hG_79 => ?_))
              refine g_ifb_eq 89 F dX5_read_82 rfl (fun c_5 => ?_) (fun c_5 => ?_)
              · skip
                refine g_iconst F dX5_read_89 (0) (by decide) ?_
                refine g_istore_n F [(2, .int (J (0))), (0, .ref (ad 5 (0))), (1, .ref (ad 6 (r))), (3, .int (J (j)))] dX5_read_90 rfl (by decide) rfl ?_
                refine g_iinc F [(3, .int (J (j + 1))), (2, .int (J (0))), (0, .ref (ad 5 (0))), (1, .ref (ad 6 (r)))] 3 rfl dX5_read_91 (by decide) rfl ?_
                refine g_goto F 28 dX5_read_94 rfl ?_
                refine g_sub [2, 3, 1, 0] (lv' := [(0, .ref (ad 5 (0))), (1, .ref (ad 6 (r))), (2, .int (J (0))), (3, .int (J (j + 1)))]) rfl ?_
                exact ih28 (u_79) (0) (j + 1) (by omega) (by first | exact RI_s6 (by omega) (by omega) (by omega) e1 hQ | exact RI_s0 (by omega) (by omega) (by omega) e1 (by omega) (hG_79.2 (by omega)) | exact RI_s1 (by omega) (by omega) (by omega) e1 e2 (by omega) (hG_79.1 (by omega))) (by omega)
              · skip
                refine g_iconst F dX5_read_85 (1) (by decide) ?_
                refine g_goto F 90 dX5_read_86 rfl ?_
                refine g_istore_n F [(2, .int (J (1))), (0, .ref (ad 5 (0))), (1, .ref (ad 6 (r))), (3, .int (J (j)))] dX5_read_90 rfl (by decide) rfl ?_
                refine g_iinc F [(3, .int (J (j + 1))), (2, .int (J (1))), (0, .ref (ad 5 (0))), (1, .ref (ad 6 (r)))] 3 rfl dX5_read_91 (by decide) rfl ?_
                refine g_goto F 28 dX5_read_94 rfl ?_
                refine g_sub [2, 3, 1, 0] (lv' := [(0, .ref (ad 5 (0))), (1, .ref (ad 6 (r))), (2, .int (J (1))), (3, .int (J (j + 1)))]) rfl ?_
                exact ih28 (u_79) (1) (j + 1) (by omega) (by first | exact RI_s6 (by omega) (by omega) (by omega) e1 hQ | exact RI_s0 (by omega) (by omega) (by omega) e1 (by omega) (hG_79.2 (by omega)) | exact RI_s1 (by omega) (by omega) (by omega) e1 e2 (by omega) (hG_79.1 (by omega))) (by omega)
          · skip
            refine g_aload_n F dX5_read_54 rfl 0 rfl ?_
            refine gg_Reader_men F fk_X5_19 dX5_read_55 ?_
            refine g_topi (b := j) (hQ.2.2.2.1) ?_
            refine g_if_le 66 F dX5_read_58 (by omega) rfl (fun c_6 => ?_) (fun c_6 => ?_)
            · skip
              refine g_aload_n F dX5_read_66 rfl 0 rfl ?_
              refine gg_Reader_place F fk_X5_22 dX5_read_67 ?_
              refine g_topi (b := qP (x 20 r) (x 17 r 0) j) (hQ.2.2.1) ?_
              exact g_ireturn F hR dX5_read_70 (pG_z (by first | rfl | (rw [e1, rdN_end (by omega)]; split <;> omega)) (by exact RD_s (by omega) hQ (by omega) (by omega) e1 e2) rfl)
            · skip
              refine g_bipush F dX5_read_61 (-9) (by decide) ?_
              refine g_goto F 70 dX5_read_63 rfl ?_
              exact g_ireturn F hR dX5_read_70 (pG_z (by first | rfl | (rw [e1, rdN_end (by omega)]; split <;> omega)) (by exact RD_s (by omega) hQ (by omega) (by omega) e1 e2) rfl)
  refine g_sub [2, 3, 1, 0] (lv' := [(0, .ref (ad 5 (0))), (1, .ref (ad 6 (r))), (2, .int (J (if irP ((x) 20 (r)) ((x) 17 (r) 0) (sk (x 20 r) (x 17 r 0) 0) = (sk (x 20 r) (x 17 r 0) 0) + 5 then 1 else 0))), (3, .int (J (0)))]) rfl ?_
  exact L28 _ (u_22) (if irP ((x) 20 (r)) ((x) 17 (r) 0) (sk (x 20 r) (x 17 r 0) 0) = (sk (x 20 r) (x 17 r 0) 0) + 5 then 1 else 0) (0) (by omega) (RI_i hn.1.1 hG_22.1 hG_22.2) (Nat.lt_succ_self _)
