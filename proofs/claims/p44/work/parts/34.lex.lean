/-! trials in a row -/
def stp (x : gX) (i : Int) (p : Int × Int × Int) : Int × Int × Int := (p.1 + (if sWr (x 2 i 0) (vU x i p.2.2) then 1 else 0), p.2.1 + (if vU x i p.2.2 = 1 then 1 else 0), sBeh (x 14 0 0) (vU x i p.2.2) (p.2.1 + (if vU x i p.2.2 = 1 then 1 else 0)) p.2.2)
def evN (x : gX) (f : Int → Int) : Nat → Int × Int × Int
  | 0 => (0, tcU x, x 15 0 0)
  | k + 1 => stp x (f (k : Int)) (evN x f k)
theorem evN_c {x : gX} {f g : Int → Int} : ∀ k : Nat, (∀ j : Int, 0 ≤ j → j < k → f j = g j) → evN x f k = evN x g k
  | 0, _ => rfl
  | k + 1, h => by
    show stp x (f (k : Int)) (evN x f k) = stp x (g (k : Int)) (evN x g k)
    rw [evN_c k (fun j h0 h1 => h j h0 (by omega)), h (k : Int) (by omega) (by omega)]
theorem stp_1 (x : gX) (i : Int) (p : Int × Int × Int) : p.1 ≤ (stp x i p).1 ∧ (stp x i p).1 ≤ p.1 + 1 ∧ p.2.1 ≤ (stp x i p).2.1 ∧ (stp x i p).2.1 ≤ p.2.1 + 1 := by
  have a : 0 ≤ (if sWr (x 2 i 0) (vU x i p.2.2) then (1 : Int) else 0) ∧ (if sWr (x 2 i 0) (vU x i p.2.2) then (1 : Int) else 0) ≤ 1 := by split <;> omega
  have b : 0 ≤ (if vU x i p.2.2 = 1 then (1 : Int) else 0) ∧ (if vU x i p.2.2 = 1 then (1 : Int) else 0) ≤ 1 := by split <;> omega
  have e1 : (stp x i p).1 = p.1 + (if sWr (x 2 i 0) (vU x i p.2.2) then (1 : Int) else 0) := rfl
  have e2 : (stp x i p).2.1 = p.2.1 + (if vU x i p.2.2 = 1 then (1 : Int) else 0) := rfl
  rw [e1, e2]
  omega
theorem evN_m (x : gX) (f : Int → Int) (k : Nat) : ∀ m : Nat, (evN x f k).1 ≤ (evN x f (k + m)).1
  | 0 => Int.le_refl _
  | m + 1 => by
    have a := evN_m x f k m
    have b := (stp_1 x (f ((k + m : Nat) : Int)) (evN x f (k + m))).1
    exact Int.le_trans a b
theorem evN_r {x : gX} (hN : NOK x) (f : Int → Int) : ∀ k : Nat, (0 ≤ (evN x f k).1 ∧ (evN x f k).1 ≤ k) ∧ (0 ≤ (evN x f k).2.1 ∧ (evN x f k).2.1 ≤ 6 + k) ∧ 0 ≤ (evN x f k).2.2 ∧ (evN x f k).2.2 ≤ 30
  | 0 => by
    have a := tcU_r hN.2.1.1
    have b := hN.2.1
    have c := hN.2.2.1
    refine ⟨⟨Int.le_refl _, Int.le_refl _⟩, ?_, ?_⟩
    · show 0 ≤ tcU x ∧ tcU x ≤ 6 + ((0 : Nat) : Int)
      omega
    · exact c
  | k + 1 => by
    have a := evN_r hN f k
    have b := stp_1 x (f (k : Int)) (evN x f k)
    refine ⟨?_, ?_, ?_⟩
    · show 0 ≤ (stp x (f (k : Int)) (evN x f k)).1 ∧ (stp x (f (k : Int)) (evN x f k)).1 ≤ ((k + 1 : Nat) : Int)
      omega
    · show 0 ≤ (stp x (f (k : Int)) (evN x f k)).2.1 ∧ (stp x (f (k : Int)) (evN x f k)).2.1 ≤ 6 + ((k + 1 : Nat) : Int)
      omega
    · exact sBeh_r a.2.2
theorem stp_k {x u : gX} (e : ∀ k : Int, k ≤ 15 → u k = x k) (i : Int) (p : Int × Int × Int) : stp u i p = stp x i p := by
  unfold stp
  rw [vU_k e, e 2 (by decide), e 14 (by decide)]
/-! bits taken away -/
theorem notJ (a : Int) : J a ^^^ J (-1) = J (-a - 1) := by
  rw [show J (-1) = (-1 : Int32) by decide +kernel, Int32.xor_neg_one, Int32.not_eq_neg_sub, ← J_sub]
  congr 1
  exact (Int32.ofInt_neg a).symm
theorem andnJ {a b c : Nat} (h : ∀ i : Nat, i < 32 → c.testBit i = (a.testBit i && !b.testBit i)) : J (a : Int) &&& (J (b : Int) ^^^ J (-1)) = J (c : Int) := by
  rw [J_nI, J_nI, J_nI]
  apply Int32.toBitVec_inj.1
  show BitVec.ofNat 32 a &&& (BitVec.ofNat 32 b ^^^ (J (-1)).toBitVec) = BitVec.ofNat 32 c
  rw [show (J (-1)).toBitVec = BitVec.allOnes 32 by decide +kernel, BitVec.xor_allOnes]
  apply BitVec.eq_of_getLsbD_eq
  intro i hi
  simp only [BitVec.getLsbD_and, BitVec.getLsbD_not, BitVec.getLsbD_ofNat, hi, decide_true, Bool.true_and, h i hi]
theorem bits_andn {P Q : Int → Prop} [DecidablePred P] [DecidablePred Q] (n : Nat) : J (bitsZ P (n : Int)) &&& (J (bitsZ Q (n : Int)) ^^^ J (-1)) = J (bitsZ (fun i => P i ∧ ¬ Q i) (n : Int)) := by
  have h1 : 0 ≤ bitsZ P (n : Int) ∧ bitsZ P (n : Int) < p2 (n : Int) := bitZ_r (P := P) (n := (n : Int)) (by omega)
  have h2 : 0 ≤ bitsZ Q (n : Int) ∧ bitsZ Q (n : Int) < p2 (n : Int) := bitZ_r (P := Q) (n := (n : Int)) (by omega)
  have h3 : 0 ≤ bitsZ (fun i => P i ∧ ¬ Q i) (n : Int) ∧ bitsZ (fun i => P i ∧ ¬ Q i) (n : Int) < p2 (n : Int) := bitZ_r (P := fun i => P i ∧ ¬ Q i) (n := (n : Int)) (by omega)
  rw [← Int.toNat_of_nonneg h1.1, ← Int.toNat_of_nonneg h2.1, ← Int.toNat_of_nonneg h3.1]
  refine andnJ (fun i hi => ?_)
  rw [bits_test, bits_test, bits_test]
  by_cases hn : i < n <;> by_cases hP : P (i : Int) <;> by_cases hQ : Q (i : Int) <;> simp [hn, hP, hQ]
theorem bits_or {P Q : Int → Prop} [DecidablePred P] [DecidablePred Q] (n : Nat) : J (bitsZ P (n : Int)) ||| J (bitsZ Q (n : Int)) = J (bitsZ (fun i => P i ∨ Q i) (n : Int)) := by
  have h1 : 0 ≤ bitsZ P (n : Int) ∧ bitsZ P (n : Int) < p2 (n : Int) := bitZ_r (P := P) (n := (n : Int)) (by omega)
  have h2 : 0 ≤ bitsZ Q (n : Int) ∧ bitsZ Q (n : Int) < p2 (n : Int) := bitZ_r (P := Q) (n := (n : Int)) (by omega)
  have h3 : 0 ≤ bitsZ (fun i => P i ∨ Q i) (n : Int) ∧ bitsZ (fun i => P i ∨ Q i) (n : Int) < p2 (n : Int) := bitZ_r (P := fun i => P i ∨ Q i) (n := (n : Int)) (by omega)
  have e : (bitsZ P (n : Int)).toNat ||| (bitsZ Q (n : Int)).toNat = (bitsZ (fun i => P i ∨ Q i) (n : Int)).toNat := by
    apply Nat.eq_of_testBit_eq
    intro i
    rw [Nat.testBit_or, bits_test, bits_test, bits_test]
    by_cases hi : i < n <;> by_cases hP : P (i : Int) <;> by_cases hQ : Q (i : Int) <;> simp [hi, hP, hQ]
  have e2 := Int.toNat_of_nonneg h3.1
  rw [← Int.toNat_of_nonneg h1.1, ← Int.toNat_of_nonneg h2.1, orJ]
  show J (((bitsZ P (n : Int)).toNat ||| (bitsZ Q (n : Int)).toNat : Nat) : Int) = J (bitsZ (fun i => P i ∨ Q i) (n : Int))
  rw [e]
  exact congrArg J e2
/-- one bit alone -/
theorem bits_one (i : Int) : ∀ m : Nat, bitsZ (fun q => q = i) (m : Int) = if 0 ≤ i ∧ i < m then p2 i else 0
  | 0 => by rw [if_neg (by omega)]; rfl
  | m + 1 => by
    have e := bits_one i m
    rw [show ((m + 1 : Nat) : Int) = (m : Int) + 1 by omega]
    by_cases h : (m : Int) = i
    · rw [bitsZ_y (P := fun q => q = i) (by omega) h, e, if_neg (by omega), if_pos (by omega), h]; omega
    · rw [bitsZ_n (P := fun q => q = i) (by omega) h, e]
      by_cases h2 : 0 ≤ i ∧ i < m
      · rw [if_pos h2, if_pos (by omega)]
      · rw [if_neg h2, if_neg (by omega)]
theorem bits_p2 {i n : Int} (h0 : 0 ≤ i) (h1 : i < n) : p2 i = bitsZ (fun q => q = i) n := by
  have := bits_one i n.toNat
  rw [Int.toNat_of_nonneg (by omega), if_pos (by omega)] at this
  exact this.symm
theorem bits_none {P : Int → Prop} [DecidablePred P] {n : Int} (h0 : 0 ≤ n) (h : ∀ i : Int, 0 ≤ i → i < n → ¬ P i) : bitsZ P n = 0 := by
  have e := bitsZ_cong (P := P) (Q := fun _ => False) (fun i a b => ⟨fun q => h i a b q, fun q => q.elim⟩)
  rw [e]
  have : ∀ m : Nat, bitsZ (fun _ => False) (m : Int) = 0 := by
    intro m
    induction m with
    | zero => rfl
    | succ k ih => rw [show ((k + 1 : Nat) : Int) = (k : Int) + 1 by omega, bitsZ_n (P := fun _ => False) (by omega) id, ih]
  have e2 := this n.toNat
  rwa [Int.toNat_of_nonneg h0] at e2
theorem bits_ask {P : Int → Prop} [DecidablePred P] {n i : Int} (h0 : 0 ≤ i) (h1 : i < n) : J (bitsZ P n) &&& J (p2 i) = J (if P i then p2 i else 0) := by
  obtain ⟨m, rfl⟩ : ∃ m : Nat, n = m := ⟨n.toNat, by omega⟩
  rw [bits_p2 h0 h1, bits_and]
  congr 1
  by_cases h : P i
  · rw [if_pos h]
    exact bitsZ_cong (fun q _ _ => ⟨fun w => w.2, fun w => ⟨by rw [w]; exact h, w⟩⟩)
  · rw [if_neg h]
    exact bits_none (by omega) (fun q _ _ w => h (by rw [← w.2]; exact w.1))
theorem bits_put {P : Int → Prop} [DecidablePred P] {n i : Int} (h0 : 0 ≤ i) (h1 : i < n) : J (bitsZ P n) ||| J (p2 i) = J (bitsZ (fun q => P q ∨ q = i) n) := by
  obtain ⟨m, rfl⟩ : ∃ m : Nat, n = m := ⟨n.toNat, by omega⟩
  rw [bits_p2 h0 h1, bits_or]
theorem bits_off {P : Int → Prop} [DecidablePred P] {n i : Int} (h0 : 0 ≤ i) (h1 : i < n) : J (bitsZ P n) &&& J (-(p2 i) - 1) = J (bitsZ (fun q => P q ∧ ¬ q = i) n) := by
  obtain ⟨m, rfl⟩ : ∃ m : Nat, n = m := ⟨n.toNat, by omega⟩
  rw [← notJ, bits_p2 h0 h1, bits_andn]
theorem bits_all (n : Int) (h0 : 0 ≤ n) : p2 n - 1 = bitsZ (fun _ => True) n := by
  obtain ⟨m, rfl⟩ : ∃ m : Nat, n = m := ⟨n.toNat, by omega⟩
  clear h0
  induction m with
  | zero => rfl
  | succ k ih =>
    rw [show ((k + 1 : Nat) : Int) = (k : Int) + 1 by omega, bitsZ_y (P := fun _ => True) (by omega) trivial, ← ih, p2_succ (by omega)]
    omega
theorem sum_cut (f : Int → Int) (n : Nat) : ∀ m : Nat, n ≤ m → sumN (fun i => if i < n then f i else 0) m = sumN f n := by
  intro m hm
  obtain ⟨d, rfl⟩ : ∃ d, m = n + d := ⟨m - n, by omega⟩
  clear hm
  induction d with
  | zero => exact sumN_cong (fun i _ h => by show (if i < (n : Int) then f i else 0) = f i; rw [if_pos (show i < (n : Int) from h)])
  | succ k ih =>
    show sumN (fun i => if i < n then f i else 0) (n + k) + (if ((n + k : Nat) : Int) < n then f ((n + k : Nat) : Int) else 0) = _
    rw [ih, if_neg (by omega), Int.add_zero]
theorem pc_n {P : Int → Prop} [DecidablePred P] {n : Int} (h0 : 0 ≤ n) (h1 : n ≤ 31) : pcZ (bitsZ P n) = sumZ (fun i => if P i then 1 else 0) n := by
  obtain ⟨m, rfl⟩ : ∃ m : Nat, n = m := ⟨n.toNat, by omega⟩
  have e1 : bitsZ P (m : Int) = bitsZ (fun i => P i ∧ i < (m : Int)) 31 := by
    have := sum_cut (fun i => if P i then p2 i else 0) m 31 (by omega)
    show sumN (fun i => if P i then p2 i else 0) m = sumN (fun i => if P i ∧ i < (m : Int) then p2 i else 0) 31
    rw [← this]
    exact sumN_cong (fun i _ _ => by
      by_cases a : P i <;> by_cases b : i < (m : Int) <;> simp [a, b])
  have e2 := sum_cut (fun i => if P i then 1 else 0) m 31 (by omega)
  rw [e1, bits_pc]
  show sumN (fun i => if P i ∧ i < (m : Int) then 1 else 0) 31 = sumN (fun i => if P i then 1 else 0) m
  rw [← e2]
  exact sumN_cong (fun i _ _ => by by_cases a : P i <;> by_cases b : i < (m : Int) <;> simp [a, b])
/-! the orders of those left, by numbers; the best of them -/
def lxM (P : Int → Bool) (g : Int → List (List Int)) : Nat → List (List Int)
  | 0 => []
  | m + 1 => lxM P g m ++ (if P (m : Int) then g (m : Int) else [])
def lx (n : Nat) : Nat → (Int → Bool) → List (List Int)
  | 0, _ => [[]]
  | k + 1, P => lxM P (fun i => (lx n k (fun q => P q && q != i)).map (i :: ·)) n
def bst (v : List Int → Int) : List (List Int) → Int × List Int → Int × List Int
  | [], b => b
  | s :: t, b => bst v t (if v s < b.1 then (v s, s) else b)
theorem bst_app (v : List Int → Int) : ∀ (A B : List (List Int)) (b : Int × List Int), bst v (A ++ B) b = bst v B (bst v A b)
  | [], _, _ => rfl
  | _ :: A, B, _ => bst_app v A B _
theorem bst_no (v : List Int → Int) : ∀ (A : List (List Int)) (b : Int × List Int), (∀ s ∈ A, b.1 ≤ v s) → bst v A b = b
  | [], _, _ => rfl
  | s :: A, b, h => by
    show bst v A (if v s < b.1 then (v s, s) else b) = b
    rw [if_neg (by have := h s (List.mem_cons_self ..); omega)]
    exact bst_no v A b (fun t ht => h t (List.mem_cons_of_mem _ ht))
theorem bst_le (v : List Int → Int) : ∀ (A : List (List Int)) (b : Int × List Int), (bst v A b).1 ≤ b.1
  | [], _ => Int.le_refl _
  | s :: A, b => by
    have := bst_le v A (if v s < b.1 then (v s, s) else b)
    show (bst v A (if v s < b.1 then (v s, s) else b)).1 ≤ b.1
    split at this
    · rename_i h; rw [if_pos h]; exact Int.le_trans this (Int.le_of_lt h)
    · rename_i h; rw [if_neg h]; exact this
theorem bst_in (v : List Int → Int) : ∀ (A : List (List Int)) (b : Int × List Int) (s : List Int), s ∈ A → (bst v A b).1 ≤ v s
  | t :: A, b, s, h => by
    show (bst v A (if v t < b.1 then (v t, t) else b)).1 ≤ v s
    rcases List.mem_cons.mp h with e | e
    · subst e
      refine Int.le_trans (bst_le v A _) ?_
      split
      · exact Int.le_refl _
      · omega
    · exact bst_in v A _ s e
theorem bst_r (v : List Int → Int) (hv : ∀ s, 0 ≤ v s) : ∀ (A : List (List Int)) (b : Int × List Int), 0 ≤ b.1 → 0 ≤ (bst v A b).1
  | [], _, h => h
  | s :: A, b, h => by
    refine bst_r v hv A _ ?_
    split
    · exact hv s
    · exact h
abbrev fnL (L : List Int) : Int → Int := fun j => L.getD j.toNat 0
def vlL (x : gX) (N : Int) (L : List Int) : Int := (evN x (fnL L) N.toNat).1
theorem fnL_app (L s : List Int) {j : Int} (h0 : 0 ≤ j) (h1 : j < (L.length : Int)) : fnL (L ++ s) j = fnL L j := by
  show (L ++ s).getD j.toNat 0 = L.getD j.toNat 0
  rw [List.getD_eq_getElem?_getD, List.getD_eq_getElem?_getD, List.getElem?_append_left (by omega)]
theorem fnL_at (L : List Int) (i : Int) : fnL (L ++ [i]) (L.length : Int) = i := by
  show (L ++ [i]).getD ((L.length : Int)).toNat 0 = i
  rw [List.getD_eq_getElem?_getD, Int.toNat_natCast, List.getElem?_append_right (Nat.le_refl _), Nat.sub_self]; rfl
theorem evN_app (x : gX) (L s : List Int) : evN x (fnL (L ++ s)) L.length = evN x (fnL L) L.length := evN_c _ (fun _ h0 h1 => fnL_app L s h0 h1)
theorem evN_one (x : gX) (L : List Int) (i : Int) : evN x (fnL (L ++ [i])) (L ++ [i]).length = stp x i (evN x (fnL L) L.length) := by
  rw [List.length_append]
  show stp x (fnL (L ++ [i]) (L.length : Int)) (evN x (fnL (L ++ [i])) L.length) = _
  rw [fnL_at, evN_app]
theorem vlL_0 {x : gX} (hN : NOK x) (N : Int) (s : List Int) : 0 ≤ vlL x N s ∧ vlL x N s ≤ N.toNat := (evN_r hN (fnL s) N.toNat).1
/-- a beginning that is no better than what there is -/
theorem vlL_ge {x : gX} {N : Int} (L s : List Int) {w c h : Int} (hN : (L.length : Int) ≤ N) (he : evN x (fnL L) L.length = (w, c, h)) : w ≤ vlL x N (L ++ s) := by
  have a := evN_m x (fnL (L ++ s)) L.length (N.toNat - L.length)
  rw [evN_app, he, show L.length + (N.toNat - L.length) = N.toNat by omega] at a
  exact a
/-- the row holds what is best so far -/
def GB (x0 : gX) (r : Int) (u : gX) (b : Int × List Int) : Prop := u 34 0 0 = b.1 ∧ (b.1 < 7 → ∀ j : Int, 0 ≤ j → j < x0 17 r 0 → u 20 r j = fnL b.2 j)
def GF (x0 : gX) (r : Int) (x u : gX) : Prop := ∀ k i j : Int, ¬ (k = 20 ∧ i = r ∧ 0 ≤ j ∧ j < x0 17 r 0) → k ≠ 24 → k ≠ 34 → u k i j = x k i j
def GO (x0 : gX) (r : Int) (x u : gX) (d : Int) (b : Int × List Int) : Prop := GF x0 r x u ∧ (∀ j : Int, 0 ≤ j → j < d → u 24 0 j = x 24 0 j) ∧ GB x0 r u b
theorem GF_E {x0 x u : gX} {r : Int} (h : GF x0 r x u) (hE : ∀ q : Int, q ≤ 17 → x q = x0 q) (q : Int) (hq : q ≤ 17) : u q = x0 q := by
  rw [← hE q hq]
  funext i j
  exact h q i j (by omega) (by omega) (by omega)
theorem GF_rf (x0 : gX) (r : Int) (x : gX) : GF x0 r x x := fun _ _ _ _ _ _ => rfl
theorem GF_tr {x0 x u v : gX} {r : Int} (h : GF x0 r x u) (g : GF x0 r u v) : GF x0 r x v := fun k i j a b c => (g k i j a b c).trans (h k i j a b c)
theorem GF_24 (x0 : gX) (r : Int) (x : gX) (d v : Int) : GF x0 r x (xU x 24 0 d v) := fun k i j _ b _ => by rw [xU_k b]
/-- the i-th of those left, tried next -/
abbrev Pm (P : Int → Bool) (i : Int) : Int → Bool := fun q => P q && q != i
theorem Pm_bits (P : Int → Bool) (i n : Int) : bitsZ (fun q => P q = true ∧ ¬ q = i) n = bitsZ (fun q => Pm P i q = true) n := bitsZ_cong (fun q _ _ => by simp [Pm])
theorem Pm_cnt {P : Int → Bool} {i : Int} (h : P i = true) : ∀ m : Nat, 0 ≤ i → i < m → sumN (fun q => if Pm P i q = true then 1 else 0) m = sumN (fun q => if P q = true then 1 else 0) m - 1
  | 0, h0, h1 => by omega
  | m + 1, h0, h1 => by
    show sumN (fun q => if Pm P i q = true then 1 else 0) m + (if Pm P i (m : Int) = true then 1 else 0) = sumN (fun q => if P q = true then 1 else 0) m + (if P (m : Int) = true then 1 else 0) - 1
    by_cases e : (m : Int) = i
    · have e2 : sumN (fun q => if Pm P i q = true then 1 else 0) m = sumN (fun q => if P q = true then 1 else 0) m := sumN_cong (fun q q0 q1 => by
        have : q ≠ i := by omega
        simp [Pm, this])
      rw [e2, e, if_pos h, if_neg (by simp [Pm])]
      omega
    · rw [Pm_cnt h m h0 (by omega)]
      have e2 : Pm P i (m : Int) = P (m : Int) := by simp [Pm, e]
      rw [e2]; omega
theorem Pm_cz {P : Int → Bool} {i n : Int} (h : P i = true) (h0 : 0 ≤ i) (h1 : i < n) {k : Nat} (hk : sumZ (fun q => if P q = true then 1 else 0) n = ((k + 1 : Nat) : Int)) : sumZ (fun q => if Pm P i q = true then 1 else 0) n = (k : Int) := by
  have := Pm_cnt h n.toNat h0 (by omega)
  unfold sumZ at hk ⊢
  rw [this, hk]; omega
/-- none is left just if their bits are 0 -/
theorem cnt_bits {P : Int → Prop} [DecidablePred P] {n : Int} (h0 : 0 ≤ n) : sumZ (fun q => if P q then 1 else 0) n = 0 ↔ bitsZ P n = 0 := by
  obtain ⟨m, rfl⟩ : ∃ m : Nat, n = m := ⟨n.toNat, by omega⟩
  clear h0
  induction m with
  | zero => exact ⟨fun _ => rfl, fun _ => rfl⟩
  | succ k ih =>
    have a : 0 ≤ sumZ (fun q => if P q then 1 else 0) (k : Int) ∧ sumZ (fun q => if P q then 1 else 0) (k : Int) ≤ k := cntZ_r (by omega)
    have b : 0 ≤ bitsZ P (k : Int) ∧ bitsZ P (k : Int) < p2 (k : Int) := bitZ_r (by omega)
    have c := p2_pos (k : Int)
    rw [show ((k + 1 : Nat) : Int) = (k : Int) + 1 by omega, sumZ_s _ (by omega)]
    by_cases h : P (k : Int)
    · rw [bitsZ_y (by omega) h, if_pos h]; omega
    · rw [bitsZ_n (by omega) h, if_neg h, Int.add_zero]; exact ih
def lxC (n : Nat) (k : Nat) (P : Int → Bool) (j : Int) : List (List Int) := lxM P (fun i => (lx n k (Pm P i)).map (i :: ·)) j.toNat
theorem lxC_s {n k : Nat} {P : Int → Bool} {j : Int} (h0 : 0 ≤ j) : lxC n k P (j + 1) = lxC n k P j ++ (if P j then (lx n k (Pm P j)).map (j :: ·) else []) := by
  unfold lxC
  rw [show (j + 1).toNat = j.toNat + 1 by omega]
  show lxM P _ j.toNat ++ (if P (j.toNat : Int) then (lx n k (Pm P (j.toNat : Int))).map ((j.toNat : Int) :: ·) else []) = _
  rw [Int.toNat_of_nonneg h0]
theorem lx_k (n k : Nat) (P : Int → Bool) : lx n (k + 1) P = lxC n k P (n : Int) := by
  unfold lxC
  rw [Int.toNat_natCast]; rfl
theorem map_pre (pre : List Int) (i : Int) (A : List (List Int)) : (A.map (i :: ·)).map (pre ++ ·) = A.map ((pre ++ [i]) ++ ·) := by
  rw [List.map_map]
  exact List.map_congr_left (fun s _ => by simp)
