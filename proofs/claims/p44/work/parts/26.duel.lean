def chN (f : Int → Int) (h : Int) (P : Prop) [Decidable P] : Nat → Int
  | 0 => f h
  | k + 1 => if P then min (chN f h P k) (f (kH (h + ((k : Int) - 3)))) else max (chN f h P k) (f (kH (h + ((k : Int) - 3))))
def chZ (f : Int → Int) (h : Int) (P : Prop) [Decidable P] : Int := chN f h P 7
theorem chN_s (f : Int → Int) (h : Int) {P : Prop} [Decidable P] {j : Int} (hj : 0 ≤ j + 3) : chN f h P (j + 1 + 3).toNat = if P then min (chN f h P (j + 3).toNat) (f (kH (h + j))) else max (chN f h P (j + 3).toNat) (f (kH (h + j))) := by
  rw [show (j + 1 + 3).toNat = (j + 3).toNat + 1 by omega]
  show (if P then min (chN f h P (j + 3).toNat) (f (kH (h + (((j + 3).toNat : Int) - 3)))) else max (chN f h P (j + 3).toNat) (f (kH (h + (((j + 3).toNat : Int) - 3))))) = _
  rw [show ((j + 3).toNat : Int) - 3 = j by omega]
theorem chN_c {f g : Int → Int} {h : Int} {P Q : Prop} [Decidable P] [Decidable Q] (hP : P ↔ Q) (hh : 0 ≤ h ∧ h ≤ 30) (hf : ∀ q : Int, 0 ≤ q → q ≤ 30 → f q = g q) : ∀ k : Nat, chN f h P k = chN g h Q k
  | 0 => hf h hh.1 hh.2
  | k + 1 => by
    show (if P then min (chN f h P k) (f (kH (h + ((k : Int) - 3)))) else max (chN f h P k) (f (kH (h + ((k : Int) - 3))))) = if Q then min (chN g h Q k) (g (kH (h + ((k : Int) - 3)))) else max (chN g h Q k) (g (kH (h + ((k : Int) - 3))))
    rw [chN_c hP hh hf k, hf _ (kH_r _).1 (kH_r _).2]
    by_cases p : P
    · rw [if_pos p, if_pos (hP.mp p)]
    · rw [if_neg p, if_neg (fun q => p (hP.mpr q))]
theorem chZ_c {f g : Int → Int} {h : Int} {P Q : Prop} [Decidable P] [Decidable Q] (hP : P ↔ Q) (hh : 0 ≤ h ∧ h ≤ 30) (hf : ∀ q : Int, 0 ≤ q → q ≤ 30 → f q = g q) : chZ f h P = chZ g h Q := chN_c hP hh hf 7
theorem chN_r {f : Int → Int} {h : Int} {P : Prop} [Decidable P] (hh : 0 ≤ h ∧ h ≤ 30) (hf : ∀ q : Int, 0 ≤ q → q ≤ 30 → 0 ≤ f q ∧ f q ≤ 6) : ∀ k : Nat, 0 ≤ chN f h P k ∧ chN f h P k ≤ 6
  | 0 => hf h hh.1 hh.2
  | k + 1 => by
    have a := chN_r (P := P) hh hf k
    have b := hf (kH (h + ((k : Int) - 3))) (kH_r _).1 (kH_r _).2
    show 0 ≤ (if P then min (chN f h P k) (f (kH (h + ((k : Int) - 3)))) else max (chN f h P k) (f (kH (h + ((k : Int) - 3))))) ∧ (if P then min (chN f h P k) (f (kH (h + ((k : Int) - 3)))) else max (chN f h P k) (f (kH (h + ((k : Int) - 3))))) ≤ 6
    split <;> omega
/-- what each heat is worth, t turns ahead of the last -/
def dwN (f : Int → Int) (n : Int) : Nat → Int → Int
  | 0, h => f h
  | t + 1, h => chZ (dwN f n t) h ((n - 1 - (t : Int)) % 2 = 0)
theorem dwN_r {f : Int → Int} {n : Int} (hf : ∀ q : Int, 0 ≤ q → q ≤ 30 → 0 ≤ f q ∧ f q ≤ 6) : ∀ (t : Nat) (h : Int), 0 ≤ h → h ≤ 30 → 0 ≤ dwN f n t h ∧ dwN f n t h ≤ 6
  | 0, h, h0, h1 => hf h h0 h1
  | t + 1, h, h0, h1 => chN_r ⟨h0, h1⟩ (fun q q0 q1 => dwN_r hf t q q0 q1) 7
def dlM (x : gX) (c : Int) (f : Int → Int) (m : Int) : gX := fun k i j => if k = 25 ∧ i = c ∧ 0 ≤ j ∧ j < m then f j else x k i j
theorem dlM_0 (x : gX) (c : Int) (f : Int → Int) : dlM x c f 0 = x := by funext k i j; unfold dlM; rw [if_neg (by omega)]
theorem dlM_s (x : gX) (c : Int) (f : Int → Int) {m : Int} (hm : 0 ≤ m) : xU (dlM x c f m) 25 c m (f m) = dlM x c f (m + 1) := by
  funext k i j
  unfold xU dlM
  by_cases h1 : k = 25 ∧ i = c ∧ j = m
  · rw [if_pos h1, if_pos ⟨h1.1, h1.2.1, by omega, by omega⟩, h1.2.2]
  · rw [if_neg h1]
    by_cases h2 : k = 25 ∧ i = c ∧ 0 ≤ j ∧ j < m
    · rw [if_pos h2, if_pos ⟨h2.1, h2.2.1, h2.2.2.1, by omega⟩]
    · rw [if_neg h2, if_neg (by omega)]
theorem dlM_k (x : gX) (c : Int) (f : Int → Int) (m : Int) {k : Int} (h : k ≠ 25) : dlM x c f m k = x k := by funext i j; unfold dlM; rw [if_neg (fun q => h q.1)]
theorem dlM_i (x : gX) {c : Int} (f : Int → Int) (m : Int) {i : Int} (h : i ≠ c) : dlM x c f m 25 i = x 25 i := by funext j; unfold dlM; rw [if_neg (fun q => h q.2.1)]
theorem dlM_in (x : gX) (c : Int) (f : Int → Int) {m j : Int} (h0 : 0 ≤ j) (h1 : j < m) : dlM x c f m 25 c j = f j := by unfold dlM; rw [if_pos ⟨rfl, rfl, h0, h1⟩]
def dOK (x : gX) : Prop := (x 38 0 0 = 0 ∧ x 39 0 0 = 1) ∨ (x 38 0 0 = 1 ∧ x 39 0 0 = 0)
theorem vU_k {x u : gX} (e : ∀ k : Int, k ≤ 15 → u k = x k) (i h : Int) : vU u i h = vU x i h := by
  show (fun (p m he k g b hd s : Int) => if sComes k g b h then (if 0 < sBurn p m k b hd h - he - 2 * s then (0 : Int) else 1) else 2) (u 11 0 0) (u 12 0 0) (u 13 0 0) (u 1 i 0) (u 2 i 0) (u 3 i 0) (u 4 i 0) (u 5 i 0) = (fun (p m he k g b hd s : Int) => if sComes k g b h then (if 0 < sBurn p m k b hd h - he - 2 * s then (0 : Int) else 1) else 2) (x 11 0 0) (x 12 0 0) (x 13 0 0) (x 1 i 0) (x 2 i 0) (x 3 i 0) (x 4 i 0) (x 5 i 0)
  rw [e 1 (by decide), e 2 (by decide), e 3 (by decide), e 4 (by decide), e 5 (by decide), e 11 (by decide), e 12 (by decide), e 13 (by decide)]
theorem foU_k {x u : gX} (e : ∀ k : Int, k ≤ 15 → u k = x k) (h : Int) : foU u h = foU x h := by
  show sumZ (fun i => if u 6 i 0 = -9 ∧ vU u i h = 0 then 1 else 0) (u 10 0 0) = _
  rw [e 10 (by decide), e 6 (by decide)]
  exact sumZ_cong (fun i _ _ => by rw [vU_k e i h])
theorem g_topd {Θ : gT} {l : Launch} {D : gD} {ad : gA} {nL pc : Nat} {lv : List (Nat × Value)} {st : List Value} {x : gX} {y : gY} {a b : Int} (h : a = b) (k : gW Θ l D ad nL pc lv (.ref (ad 25 b) :: st) x y) : gW Θ l D ad nL pc lv (.ref (ad 25 a) :: st) x y := by rw [h]; exact k
theorem foU_r {x : gX} (hN : NOK x) (h : Int) : 0 ≤ foU x h ∧ foU x h ≤ 6 := by
  have a : 0 ≤ foU x h ∧ foU x h ≤ x 10 0 0 := cntZ_r hN.2.1.1
  have := hN.2.1
  omega
theorem NOK_k {x u : gX} (e : ∀ k : Int, k ≤ 15 → u k = x k) (hN : NOK x) : NOK u := by
  unfold NOK IOK MOK
  rw [e 1 (by decide), e 2 (by decide), e 3 (by decide), e 4 (by decide), e 5 (by decide), e 6 (by decide), e 7 (by decide), e 10 (by decide), e 11 (by decide), e 12 (by decide), e 13 (by decide), e 14 (by decide), e 15 (by decide)]
  exact hN
/-- the duel, the turns from the j-th on being weighed -/
def DW (x : gX) (n : Int) (u : gX) (j : Int) : Prop := (∀ k : Int, k ≠ 25 → k ≠ 38 → k ≠ 39 → u k = x k) ∧ dOK u ∧ ∀ h : Int, 0 ≤ h → h ≤ 30 → u 25 (u 38 0 0) h = dwN (fun h => foU x h) n (n - 1 - j).toNat h
theorem dOK_r {x : gX} (h : dOK x) : (0 ≤ x 38 0 0 ∧ x 38 0 0 < 2) ∧ (0 ≤ x 39 0 0 ∧ x 39 0 0 < 2) ∧ x 38 0 0 ≠ x 39 0 0 := by rcases h with h | h <;> omega
theorem DW_i {x : gX} {n : Int} (hd : dOK x) : DW x n (dlM x (x 38 0 0) (fun h => foU x h) 31) (n - 1) := by
  refine ⟨fun k h1 h2 h3 => dlM_k _ _ _ _ h1, ?_, fun h h0 h1 => ?_⟩
  · unfold dOK; rw [dlM_k _ _ _ _ (by decide), dlM_k _ _ _ _ (by decide)]; exact hd
  · rw [dlM_k (k := 38) _ _ _ _ (by decide), dlM_in _ _ _ h0 (by omega), show (n - 1 - (n - 1)).toNat = 0 by omega]; rfl
theorem DW_s {x : gX} {n : Int} {u : gX} {j : Int} (hj : 0 ≤ j ∧ j < n) (h : DW x n u j) (M : gX) (hM : M = dlM u (u 39 0 0) (fun q => chZ (u 25 (u 38 0 0)) q (j % 2 = 0)) 31) : DW x n (xU (xU M 38 0 0 (M 39 0 0)) 39 0 0 (M 38 0 0)) (j + (-1)) := by
  obtain ⟨h1, h2, h3⟩ := h
  have e38 : M 38 = u 38 := by rw [hM]; exact dlM_k _ _ _ _ (by decide)
  have e39 : M 39 = u 39 := by rw [hM]; exact dlM_k _ _ _ _ (by decide)
  refine ⟨fun k q1 q2 q3 => ?_, ?_, fun h q0 q1 => ?_⟩
  · rw [xU_k q3, xU_k q2, hM, dlM_k _ _ _ _ q1]; exact h1 k q1 q2 q3
  · show (M 39 0 0 = 0 ∧ M 38 0 0 = 1) ∨ (M 39 0 0 = 1 ∧ M 38 0 0 = 0)
    rw [e38, e39]; rcases h2 with q | q
    · exact Or.inr ⟨q.2, q.1⟩
    · exact Or.inl ⟨q.2, q.1⟩
  · show M 25 (M 39 0 0) h = _
    rw [e39, hM, dlM_in _ _ _ q0 (by omega), show (n - 1 - (j + (-1))).toNat = (n - 1 - j).toNat + 1 by omega]
    show _ = chZ (dwN (fun h => foU x h) n (n - 1 - j).toNat) h ((n - 1 - ((n - 1 - j).toNat : Int)) % 2 = 0)
    exact chZ_c (by rw [show n - 1 - ((n - 1 - j).toNat : Int) = j by omega]) ⟨q0, q1⟩ h3
set_option maxRecDepth 20000 in
theorem c_X2_chosen (l : Launch) (D : gD) (ad : gA) (x : gX) (y : gY) (h z : Int) (hd : 0 ≤ x 38 0 0 ∧ x 38 0 0 < 2) (hh : 0 ≤ h ∧ h ≤ 30) (hz : 0 ≤ z ∧ z ≤ 1) (hf : ∀ q : Int, 0 ≤ q → q ≤ 30 → 0 ≤ x 25 (x 38 0 0) q ∧ x 25 (x 38 0 0) q ≤ 6) : gC l D ad 2 yX2_chosen cX2_chosen 6 (some .int) [.ref (ad 2 (0)), .int (J (h)), .int (J (z))] x y (pI (chZ (x 25 (x 38 0 0)) h (z = 1)) (x) (y)) := by
  refine g_met RX2 rfl (by decide +kernel) [(0, .ref (ad 2 (0))), (1, .int (J (h))), (2, .int (J (z)))] rfl (Nat.le_of_ble_eq_true rfl) (fun Θ F hR => ?_)
  have h00 := hf h hh.1 hh.2
  refine g_aload_n F dX2_chosen_0 rfl 0 rfl ?_
  refine gg_Duel_worth F fk_X2_9 dX2_chosen_1 ?_
  refine g_iload_n F dX2_chosen_4 rfl 1 rfl ?_
  refine ga_25 F (by omega) (by omega) dX2_chosen_5 ?_
  refine g_istore_n F [(3, .int (J (x 25 (x 38 (0) (0)) (h)))), (0, .ref (ad 2 (0))), (1, .int (J (h))), (2, .int (J (z)))] dX2_chosen_6 rfl (by decide) rfl ?_
  refine g_bipush F dX2_chosen_7 (-3) (by decide) ?_
  refine g_istore F [(4, .int (J (-3))), (3, .int (J (x 25 (x 38 (0) (0)) (h)))), (0, .ref (ad 2 (0))), (1, .int (J (h))), (2, .int (J (z)))] dX2_chosen_9 (by decide) rfl ?_
  have L11 : ∀ (N : Nat) (a : Int) (j : Int), -3 ≤ j ∧ j ≤ 4 → 0 ≤ a ∧ a ≤ 6 → a = chN (x 25 (x 38 0 0)) h (z = 1) (j + 3).toNat → (4 - j).toNat < N → gW Θ l D ad 6 11 [(0, .ref (ad 2 (0))), (1, .int (J (h))), (2, .int (J (z))), (3, .int (J (a))), (4, .int (J (j)))] [] x y := by
    intro N
    induction N with
    | zero => intro a j hj hb ha hFu; omega
    | succ N ih11 =>
      intro a j hj hb ha hFu
      refine g_iload F dX2_chosen_11 4 rfl ?_
      refine g_iconst F dX2_chosen_13 (3) (by decide) ?_
      refine g_icmp_gt 57 F dX2_chosen_14 (by omega) (by decide) rfl (fun c_1 => ?_) (fun c_1 => ?_)
      · skip
        refine g_iload_n F dX2_chosen_57 rfl 3 rfl ?_
        exact g_ireturn F hR dX2_chosen_58 (pI_i (by exact ha.trans (by rw [show j = 4 by omega]; rfl)) rfl rfl)
      · skip
        refine g_aload_n F dX2_chosen_17 rfl 0 rfl ?_
        refine gg_Duel_worth F fk_X2_9 dX2_chosen_18 ?_
        refine g_iload_n F dX2_chosen_21 rfl 1 rfl ?_
        refine g_iload F dX2_chosen_22 4 rfl ?_
        refine g_iadd F dX2_chosen_24 ?_
        have hk := kH_r (h + j)
        have hv := hf (kH (h + j)) hk.1 hk.2
        refine g_callS 1 F (As := [.int (J ((h) + (j)))]) (st := [.ref (ad 25 (x 38 (0) (0)))]) (c_X0_keptHeat l D ad x y ((h) + (j)) (by omega)) rfl mk_X2_32 ki_X0_keptHeat kc_X0_keptHeat (by decide +kernel) rfl (by decide) dX2_chosen_25 rfl (Nat.le_of_ble_eq_true rfl) (pI_k ?_)
        refine ga_25 F (by omega) (by omega) dX2_chosen_28 ?_
        refine g_istore F [(5, .int (J (x 25 (x 38 (0) (0)) (kH ((h) + (j)))))), (0, .ref (ad 2 (0))), (1, .int (J (h))), (2, .int (J (z))), (3, .int (J (a))), (4, .int (J (j)))] dX2_chosen_29 (by decide) rfl ?_
        refine g_iload_n F dX2_chosen_31 rfl 3 rfl ?_
        refine g_if_eq 44 F dX2_chosen_32 (by omega) rfl (fun c_2 => ?_) (fun c_2 => ?_)
        · skip
          refine g_iload_n F dX2_chosen_44 rfl 4 rfl ?_
          refine g_iload F dX2_chosen_45 0 rfl ?_
          refine g_max F mk_X2_41 (by decide) (by omega) (by omega) dX2_chosen_47 (Nat.le_of_ble_eq_true rfl) ?_
          refine g_istore_n F [(3, .int (J (max (a) (x 25 (x 38 (0) (0)) (kH ((h) + (j))))))), (5, .int (J (x 25 (x 38 (0) (0)) (kH ((h) + (j)))))), (0, .ref (ad 2 (0))), (1, .int (J (h))), (2, .int (J (z))), (4, .int (J (j)))] dX2_chosen_50 rfl (by decide) rfl ?_
          refine g_iinc F [(4, .int (J (j + 1))), (3, .int (J (max (a) (x 25 (x 38 (0) (0)) (kH ((h) + (j))))))), (5, .int (J (x 25 (x 38 (0) (0)) (kH ((h) + (j)))))), (0, .ref (ad 2 (0))), (1, .int (J (h))), (2, .int (J (z)))] 5 rfl dX2_chosen_51 (by decide) rfl ?_
          refine g_goto F 11 dX2_chosen_54 rfl ?_
          refine g_sub [3, 4, 5, 1, 0] (lv' := [(0, .ref (ad 2 (0))), (1, .int (J (h))), (2, .int (J (z))), (3, .int (J (max (a) (x 25 (x 38 (0) (0)) (kH ((h) + (j))))))), (4, .int (J (j + 1)))]) rfl ?_
          exact ih11 (max (a) (x 25 (x 38 (0) (0)) (kH ((h) + (j))))) (j + 1) (by omega) (by omega) (by rw [chN_s _ _ (by omega), ← ha]; first | (rw [if_pos (by omega)]; done) | (rw [if_neg (by omega)]; done)) (by omega)
        · skip
          refine g_iload_n F dX2_chosen_35 rfl 4 rfl ?_
          refine g_iload F dX2_chosen_36 0 rfl ?_
          refine g_min F mk_X2_35 (by decide) (by omega) (by omega) dX2_chosen_38 (Nat.le_of_ble_eq_true rfl) ?_
          refine g_goto F 50 dX2_chosen_41 rfl ?_
          refine g_istore_n F [(3, .int (J (min (a) (x 25 (x 38 (0) (0)) (kH ((h) + (j))))))), (5, .int (J (x 25 (x 38 (0) (0)) (kH ((h) + (j)))))), (0, .ref (ad 2 (0))), (1, .int (J (h))), (2, .int (J (z))), (4, .int (J (j)))] dX2_chosen_50 rfl (by decide) rfl ?_
          refine g_iinc F [(4, .int (J (j + 1))), (3, .int (J (min (a) (x 25 (x 38 (0) (0)) (kH ((h) + (j))))))), (5, .int (J (x 25 (x 38 (0) (0)) (kH ((h) + (j)))))), (0, .ref (ad 2 (0))), (1, .int (J (h))), (2, .int (J (z)))] 5 rfl dX2_chosen_51 (by decide) rfl ?_
          refine g_goto F 11 dX2_chosen_54 rfl ?_
          refine g_sub [3, 4, 5, 1, 0] (lv' := [(0, .ref (ad 2 (0))), (1, .int (J (h))), (2, .int (J (z))), (3, .int (J (min (a) (x 25 (x 38 (0) (0)) (kH ((h) + (j))))))), (4, .int (J (j + 1)))]) rfl ?_
          exact ih11 (min (a) (x 25 (x 38 (0) (0)) (kH ((h) + (j))))) (j + 1) (by omega) (by omega) (by rw [chN_s _ _ (by omega), ← ha]; first | (rw [if_pos (by omega)]; done) | (rw [if_neg (by omega)]; done)) (by omega)
  refine g_sub [2, 3, 4, 1, 0] (lv' := [(0, .ref (ad 2 (0))), (1, .int (J (h))), (2, .int (J (z))), (3, .int (J (x 25 (x 38 (0) (0)) (h)))), (4, .int (J (-3)))]) rfl ?_
  exact L11 _ (x 25 (x 38 (0) (0)) (h)) (-3) (by omega) (by omega) (rfl) (Nat.lt_succ_self _)

set_option maxRecDepth 20000 in
theorem c_X2_foulAtLast (l : Launch) (D : gD) (ad : gA) (x : gX) (y : gY) (n : Int) (hN : NOK x) (hd : dOK x) (hn : 0 ≤ n ∧ n ≤ 6) : gC l D ad 5 yX2_foulAtLast cX2_foulAtLast 5 (some .int) [.ref (ad 2 (0)), .ref (ad 0 (0)), .int (J (n))] x y (pG (.int (J (dwN (fun h => foU x h) n n.toNat (x 15 0 0)))) (fun u => (∀ k : Int, k ≠ 25 → k ≠ 38 → k ≠ 39 → u k = x k) ∧ dOK u) (y)) := by
  refine g_met RX2 rfl (by decide +kernel) [(0, .ref (ad 2 (0))), (1, .ref (ad 0 (0))), (2, .int (J (n)))] rfl (Nat.le_of_ble_eq_true rfl) (fun Θ F hR => ?_)
  have hdr := dOK_r hd
  refine g_iconst F dX2_foulAtLast_0 (0) (by decide) ?_
  refine g_istore_n F [(3, .int (J (0))), (0, .ref (ad 2 (0))), (1, .ref (ad 0 (0))), (2, .int (J (n)))] dX2_foulAtLast_1 rfl (by decide) rfl ?_
  have L2 : ∀ (N : Nat) (q : Int), 0 ≤ q ∧ q ≤ 31 → (31 - q).toNat < N → gW Θ l D ad 5 2 [(0, .ref (ad 2 (0))), (1, .ref (ad 0 (0))), (2, .int (J (n))), (3, .int (J (q)))] [] (dlM x (x 38 0 0) (fun h => foU x h) q) y := by
    intro N
    induction N with
    | zero => intro q hq hFu; omega
    | succ N ih2 =>
      intro q hq hFu
      refine g_iload_n F dX2_foulAtLast_2 rfl 3 rfl ?_
      refine g_bipush F dX2_foulAtLast_3 (31) (by decide) ?_
      refine g_icmp_ge 25 F dX2_foulAtLast_5 (by omega) (by decide) rfl (fun c_1 => ?_) (fun c_1 => ?_)
      · skip
        refine g_iload_n F dX2_foulAtLast_25 rfl 2 rfl ?_
        refine g_iconst F dX2_foulAtLast_26 (1) (by decide) ?_
        refine g_isub F dX2_foulAtLast_27 ?_
        refine g_istore_n F [(3, .int (J ((n) - (1)))), (0, .ref (ad 2 (0))), (1, .ref (ad 0 (0))), (2, .int (J (n)))] dX2_foulAtLast_28 rfl (by decide) rfl ?_
        have L29 : ∀ (N : Nat) (u : gX) (j : Int), -1 ≤ j ∧ j < n → DW x n u j → (j + 1).toNat < N → gW Θ l D ad 5 29 [(0, .ref (ad 2 (0))), (1, .ref (ad 0 (0))), (2, .int (J (n))), (3, .int (J (j)))] [] u y := by
          intro N
          induction N with
          | zero => intro u j hj hw hFu; omega
          | succ N ih29 =>
            intro u j hj hw hFu
            have hur := dOK_r hw.2.1
            have hNu : NOK u := NOK_k (fun k hk => hw.1 k (by omega) (by omega) (by omega)) hN
            have hf : ∀ h : Int, 0 ≤ h → h ≤ 30 → 0 ≤ u 25 (u 38 0 0) h ∧ u 25 (u 38 0 0) h ≤ 6 := fun h h0 h1 => by rw [hw.2.2 h h0 h1]; exact dwN_r (fun q _ _ => foU_r hN q) _ h h0 h1
            refine g_iload_n F dX2_foulAtLast_29 rfl 3 rfl ?_
            refine g_if_lt 99 F dX2_foulAtLast_30 (by omega) rfl (fun c_2 => ?_) (fun c_2 => ?_)
            · skip
              refine g_aload_n F dX2_foulAtLast_99 rfl 0 rfl ?_
              refine gg_Duel_worth F fk_X2_9 dX2_foulAtLast_100 ?_
              refine g_aload_n F dX2_foulAtLast_103 rfl 1 rfl ?_
              refine ggN_Court_heat F fk_X2_28 dX2_foulAtLast_104 ?_
              refine g_topi (b := x 15 0 0) (by rw [hw.1 15 (by decide) (by decide) (by decide)]) ?_
              refine ga_25 F (by omega) (by omega) dX2_foulAtLast_107 ?_
              refine g_topi (b := dwN (fun h => foU x h) n n.toNat (x 15 0 0)) (by rw [hw.2.2 _ hN.2.2.1.1 hN.2.2.1.2, show (n - 1 - j).toNat = n.toNat by omega]) ?_
              exact g_ireturn F hR dX2_foulAtLast_108 (pG_z (by rfl) (by exact ⟨hw.1, hw.2.1⟩) rfl)
            · skip
              refine g_iconst F dX2_foulAtLast_33 (0) (by decide) ?_
              refine g_istore F [(4, .int (J (0))), (0, .ref (ad 2 (0))), (1, .ref (ad 0 (0))), (2, .int (J (n))), (3, .int (J (j)))] dX2_foulAtLast_34 (by decide) rfl ?_
              have L36 : ∀ (N : Nat) (q : Int), 0 ≤ q ∧ q ≤ 31 → (31 - q).toNat < N → gW Θ l D ad 5 36 [(0, .ref (ad 2 (0))), (1, .ref (ad 0 (0))), (2, .int (J (n))), (3, .int (J (j))), (4, .int (J (q)))] [] (dlM u (u 39 0 0) (fun q => chZ (u 25 (u 38 0 0)) q (j % 2 = 0)) q) y := by
                intro N
                induction N with
                | zero => intro q hq hFu; omega
                | succ N ih36 =>
                  intro q hq hFu
                  refine g_iload F dX2_foulAtLast_36 4 rfl ?_
                  refine g_bipush F dX2_foulAtLast_38 (31) (by decide) ?_
                  refine g_icmp_ge 73 F dX2_foulAtLast_40 (by omega) (by decide) rfl (fun c_3 => ?_) (fun c_3 => ?_)
                  · skip
                    refine g_aload_n F dX2_foulAtLast_73 rfl 0 rfl ?_
                    refine gg_Duel_worth F fk_X2_9 dX2_foulAtLast_74 ?_
                    refine g_topd (b := u 38 0 0) (by rw [dlM_k _ _ _ _ (by decide)]) ?_
                    refine g_astore F [(4, .ref (ad 25 (u 38 0 0))), (0, .ref (ad 2 (0))), (1, .ref (ad 0 (0))), (2, .int (J (n))), (3, .int (J (j)))] dX2_foulAtLast_77 (by decide) rfl ?_
                    refine g_aload_n F dX2_foulAtLast_79 rfl 1 rfl ?_
                    refine g_aload_n F dX2_foulAtLast_80 rfl 1 rfl ?_
                    refine gg_Duel_worthAhead F fk_X2_15 dX2_foulAtLast_81 ?_
                    refine g_topd (b := u 39 0 0) (by rw [dlM_k _ _ _ _ (by decide)]) ?_
                    refine gp_Duel_worth F fk_X2_9 dX2_foulAtLast_84 ?_
                    refine g_aload_n F dX2_foulAtLast_87 rfl 1 rfl ?_
                    refine g_aload F dX2_foulAtLast_88 0 rfl ?_
                    refine gp_Duel_worthAhead F fk_X2_15 dX2_foulAtLast_90 ?_
                    refine g_iinc F [(3, .int (J (j + (-1)))), (4, .ref (ad 25 (u 38 0 0))), (0, .ref (ad 2 (0))), (1, .ref (ad 0 (0))), (2, .int (J (n)))] 4 rfl dX2_foulAtLast_93 (by decide) rfl ?_
                    refine g_goto F 29 dX2_foulAtLast_96 rfl ?_
                    refine g_sub [2, 3, 4, 0] (lv' := [(0, .ref (ad 2 (0))), (1, .ref (ad 0 (0))), (2, .int (J (n))), (3, .int (J (j + (-1))))]) rfl ?_
                    exact ih29 ((xU (xU (dlM u (u 39 0 0) (fun q => chZ (u 25 (u 38 0 0)) q (j % 2 = 0)) q) 38 (0) (0) (u 39 0 0)) 39 (0) (0) (u 38 0 0))) (j + (-1)) (by omega) (by have e : q = 31 := (by omega); subst e; exact DW_s (by omega) hw _ rfl) (by omega)
                  · skip
                    refine g_aload_n F dX2_foulAtLast_43 rfl 0 rfl ?_
                    refine gg_Duel_worthAhead F fk_X2_15 dX2_foulAtLast_44 ?_
                    refine g_topd (b := u 39 0 0) (by rw [dlM_k _ _ _ _ (by decide)]) ?_
                    refine g_iload F dX2_foulAtLast_47 4 rfl ?_
                    refine g_aload_n F dX2_foulAtLast_49 rfl 0 rfl ?_
                    refine g_iload F dX2_foulAtLast_50 4 rfl ?_
                    refine g_iload_n F dX2_foulAtLast_52 rfl 3 rfl ?_
                    refine g_iconst F dX2_foulAtLast_53 (2) (by decide) ?_
                    refine g_iremp F dX2_foulAtLast_54 (by omega) (by decide) (by omega) (by decide) ?_
                    refine g_if_ne 62 F dX2_foulAtLast_55 (by omega) rfl (fun c_4 => ?_) (fun c_4 => ?_)
                    · skip
                      refine g_iconst F dX2_foulAtLast_62 (0) (by decide) ?_
                      refine g_callV 2 F (As := [.int (J (q)), .int (J (0))]) (st := [.int (J (q)), .ref (ad 25 (u 39 0 0))]) (c_X2_chosen l D ad (dlM u (u 39 0 0) (fun q => chZ (u 25 (u 38 0 0)) q (j % 2 = 0)) q) y (q) (0) (by rw [dlM_k _ _ _ _ (by decide)]; exact hur.1) (by omega) (by omega) (by intro h h0 h1; rw [dlM_k (k := 38) _ _ _ _ (by decide), dlM_i _ _ _ hur.2.2]; exact hf h h0 h1)) (gR_2) rfl mk_X2_24 ki_X2_chosen kc_X2_chosen (by decide +kernel) rfl (by decide) dX2_foulAtLast_63 rfl (Nat.le_of_ble_eq_true rfl) (pI_k ?_)
                      refine g_topi (b := chZ (u 25 (u 38 0 0)) q (j % 2 = 0)) (chZ_c (by omega) (by omega) (fun h h0 h1 => by rw [dlM_k (k := 38) _ _ _ _ (by decide), dlM_i _ _ _ hur.2.2])) ?_
                      refine gs_25 F (by omega) (by omega) dX2_foulAtLast_66 ?_
                      refine g_iinc F [(4, .int (J (q + 1))), (0, .ref (ad 2 (0))), (1, .ref (ad 0 (0))), (2, .int (J (n))), (3, .int (J (j)))] 4 rfl dX2_foulAtLast_67 (by decide) rfl ?_
                      refine g_goto F 36 dX2_foulAtLast_70 rfl ?_
                      refine g_sub [1, 2, 3, 4, 0] (lv' := [(0, .ref (ad 2 (0))), (1, .ref (ad 0 (0))), (2, .int (J (n))), (3, .int (J (j))), (4, .int (J (q + 1)))]) rfl ?_
                      exact gW_eq (ih36 (q + 1) (by omega) (by omega)) rfl rfl rfl (by rw [← dlM_s _ _ _ (by omega)]) (rfl)
                    · skip
                      refine g_iconst F dX2_foulAtLast_58 (1) (by decide) ?_
                      refine g_goto F 63 dX2_foulAtLast_59 rfl ?_
                      refine g_callV 2 F (As := [.int (J (q)), .int (J (1))]) (st := [.int (J (q)), .ref (ad 25 (u 39 0 0))]) (c_X2_chosen l D ad (dlM u (u 39 0 0) (fun q => chZ (u 25 (u 38 0 0)) q (j % 2 = 0)) q) y (q) (1) (by rw [dlM_k _ _ _ _ (by decide)]; exact hur.1) (by omega) (by omega) (by intro h h0 h1; rw [dlM_k (k := 38) _ _ _ _ (by decide), dlM_i _ _ _ hur.2.2]; exact hf h h0 h1)) (gR_2) rfl mk_X2_24 ki_X2_chosen kc_X2_chosen (by decide +kernel) rfl (by decide) dX2_foulAtLast_63 rfl (Nat.le_of_ble_eq_true rfl) (pI_k ?_)
                      refine g_topi (b := chZ (u 25 (u 38 0 0)) q (j % 2 = 0)) (chZ_c (by omega) (by omega) (fun h h0 h1 => by rw [dlM_k (k := 38) _ _ _ _ (by decide), dlM_i _ _ _ hur.2.2])) ?_
                      refine gs_25 F (by omega) (by omega) dX2_foulAtLast_66 ?_
                      refine g_iinc F [(4, .int (J (q + 1))), (0, .ref (ad 2 (0))), (1, .ref (ad 0 (0))), (2, .int (J (n))), (3, .int (J (j)))] 4 rfl dX2_foulAtLast_67 (by decide) rfl ?_
                      refine g_goto F 36 dX2_foulAtLast_70 rfl ?_
                      refine g_sub [1, 2, 3, 4, 0] (lv' := [(0, .ref (ad 2 (0))), (1, .ref (ad 0 (0))), (2, .int (J (n))), (3, .int (J (j))), (4, .int (J (q + 1)))]) rfl ?_
                      exact gW_eq (ih36 (q + 1) (by omega) (by omega)) rfl rfl rfl (by rw [← dlM_s _ _ _ (by omega)]) (rfl)
              refine g_sub [1, 2, 3, 4, 0] (lv' := [(0, .ref (ad 2 (0))), (1, .ref (ad 0 (0))), (2, .int (J (n))), (3, .int (J (j))), (4, .int (J (0)))]) rfl ?_
              exact gW_eq (L36 _ (0) (by omega) (Nat.lt_succ_self _)) rfl rfl rfl ((dlM_0 _ _ _).symm) (rfl)
        refine g_sub [1, 2, 3, 0] (lv' := [(0, .ref (ad 2 (0))), (1, .ref (ad 0 (0))), (2, .int (J (n))), (3, .int (J ((n) - (1))))]) rfl ?_
        exact L29 _ ((dlM x (x 38 0 0) (fun h => foU x h) q)) (n - 1) (by omega) (by have e : q = 31 := (by omega); subst e; exact DW_i hd) (Nat.lt_succ_self _)
      · skip
        refine g_aload_n F dX2_foulAtLast_8 rfl 0 rfl ?_
        refine gg_Duel_worth F fk_X2_9 dX2_foulAtLast_9 ?_
        refine g_topd (b := x 38 0 0) (by rw [dlM_k _ _ _ _ (by decide)]) ?_
        refine g_iload_n F dX2_foulAtLast_12 rfl 3 rfl ?_
        refine g_aload_n F dX2_foulAtLast_13 rfl 1 rfl ?_
        refine g_iload_n F dX2_foulAtLast_14 rfl 3 rfl ?_
        refine g_callV 1 F (As := [.int (J (q))]) (st := [.int (J (q)), .ref (ad 25 (x 38 0 0))]) (c_X0_foulOnes l D ad (dlM x (x 38 0 0) (fun h => foU x h) q) y (q) (NOK_k (fun k hk => dlM_k _ _ _ _ (by omega)) hN) (by omega)) (gR_0) rfl mk_X2_18 ki_X0_foulOnes kc_X0_foulOnes (by decide +kernel) rfl (by decide) dX2_foulAtLast_15 rfl (Nat.le_of_ble_eq_true rfl) (pI_k ?_)
        refine g_topi (b := foU x q) (foU_k (fun k hk => dlM_k _ _ _ _ (by omega)) q) ?_
        refine gs_25 F (by omega) (by omega) dX2_foulAtLast_18 ?_
        refine g_iinc F [(3, .int (J (q + 1))), (0, .ref (ad 2 (0))), (1, .ref (ad 0 (0))), (2, .int (J (n)))] 3 rfl dX2_foulAtLast_19 (by decide) rfl ?_
        refine g_goto F 2 dX2_foulAtLast_22 rfl ?_
        refine g_sub [1, 2, 3, 0] (lv' := [(0, .ref (ad 2 (0))), (1, .ref (ad 0 (0))), (2, .int (J (n))), (3, .int (J (q + 1)))]) rfl ?_
        exact gW_eq (ih2 (q + 1) (by omega) (by omega)) rfl rfl rfl (by rw [← dlM_s _ _ _ (by omega)]) (rfl)
  refine g_sub [1, 2, 3, 0] (lv' := [(0, .ref (ad 2 (0))), (1, .ref (ad 0 (0))), (2, .int (J (n))), (3, .int (J (0)))]) rfl ?_
  exact gW_eq (L2 _ (0) (by omega) (Nat.lt_succ_self _)) rfl rfl rfl ((dlM_0 _ _ _).symm) (rfl)
