theorem fnL_get (U : List Int) {i : Nat} (h : i < U.length) : fnL U (i : Int) = U[i] := by
  show U.getD (i : Int).toNat 0 = _
  rw [Int.toNat_natCast, List.getD_eq_getElem?_getD, List.getElem?_eq_getElem h]
  rfl
theorem fnL_map (f : Int → Int) (s : List Int) {q : Int} (h0 : 0 ≤ q) (h1 : q < (s.length : Int)) : fnL (s.map f) q = f (fnL s q) := by
  obtain ⟨i, rfl⟩ : ∃ i : Nat, q = i := ⟨q.toNat, by omega⟩
  rw [fnL_get s (by omega), fnL_get (s.map f) (by rw [List.length_map]; omega), List.getElem_map]
theorem map_ix (U : List Int) : (ixL U.length).map (fnL U) = U := by
  unfold ixL
  rw [List.map_map]
  refine List.ext_getElem (by rw [List.length_map, List.length_range]) (fun i h1 h2 => ?_)
  rw [List.getElem_map, List.getElem_range]
  exact fnL_get U h2
theorem pm_ix (U : List Int) : pm U.length U = (pm U.length (ixL U.length)).map (List.map (fnL U)) := by
  have e := pm_map (fnL U) U.length (ixL U.length)
  rw [map_ix U] at e
  exact e
theorem chO_pm {N : Nat} (h : N ≤ 6) : chO N (pm N (ixL N)) = true := by
  have a := chO_5
  have b := chO_6
  rcases (show N = 0 ∨ N = 1 ∨ N = 2 ∨ N = 3 ∨ N = 4 ∨ N = 5 ∨ N = 6 by omega) with e | e | e | e | e | e | e <;> subst e
  · exact a.1
  · exact a.2.1
  · exact a.2.2.1
  · exact a.2.2.2.1
  · exact a.2.2.2.2
  · exact b.1
  · exact b.2
/-- growing -/
def INC (u : Int → Int) (N : Int) : Prop := ∀ p q : Int, 0 ≤ p → p < q → q < N → u p < u q
theorem INC_lt {u : Int → Int} {N p q : Int} (h : INC u N) (p0 : 0 ≤ p ∧ p < N) (q0 : 0 ≤ q ∧ q < N) : p < q ↔ u p < u q := by
  refine ⟨fun c => h p q p0.1 c q0.2, fun c => ?_⟩
  rcases (show p < q ∨ p = q ∨ q < p by omega) with d | d | d
  · exact d
  · subst d; omega
  · have := h q p q0.1 d p0.2; omega
/-- where the next of a line is made -/
def aO (N : Nat) (s : List Int) : Int := if N = 0 then -2 else faI s (N - 1)
def bO (N : Nat) (s : List Int) : Int := fbI s (aO N s) N
def NXH (g : Int → Int) (n a b : Int) : Prop := ((a = -2 ∧ n = 0) ∨ (a = -1 ∧ 1 ≤ n) ∨ (0 ≤ a ∧ a + 1 < n)) ∧ (0 ≤ a → g a ≤ g (a + 1)) ∧ (∀ q : Int, a < q → 0 ≤ q → q + 1 < n → g (q + 1) < g q) ∧ (0 ≤ a → a < b ∧ b < n ∧ g a ≤ g b) ∧ ∀ q : Int, 0 ≤ a → b < q → q < n → g q < g a
theorem inO_t {N : Nat} {s : List Int} (h : inO N s = true) : s.length = N ∧ ∀ q : Int, 0 ≤ q → q < (N : Int) → (0 ≤ fnL s q ∧ fnL s q < (N : Int)) ∧ ∀ p : Int, 0 ≤ p → p < q → fnL s p ≠ fnL s q := by
  unfold inO at h
  rw [Bool.and_eq_true, List.all_eq_true] at h
  refine ⟨of_decide_eq_true h.1, fun q q0 q1 => ?_⟩
  obtain ⟨i, rfl⟩ : ∃ i : Nat, q = i := ⟨q.toNat, by omega⟩
  have a := h.2 i (List.mem_range.mpr (by omega))
  rw [Bool.and_eq_true, Bool.and_eq_true, List.all_eq_true] at a
  refine ⟨⟨of_decide_eq_true a.1.1, of_decide_eq_true a.1.2⟩, fun p p0 p1 => ?_⟩
  obtain ⟨j, rfl⟩ : ∃ j : Nat, p = j := ⟨p.toNat, by omega⟩
  have b := a.2 j (List.mem_range.mpr (by omega))
  rw [Bool.or_eq_true] at b
  rcases b with c | c
  · rw [Bool.not_eq_true', decide_eq_false_iff_not] at c
    exact absurd p1 c
  · exact of_decide_eq_true c
theorem laO_t {N : Nat} {s : List Int} (h : laO N s = true) (q : Int) (q0 : 0 ≤ q) (q1 : q + 1 < (N : Int)) : fnL s (q + 1) < fnL s q := by
  unfold laO at h
  rw [List.all_eq_true] at h
  obtain ⟨i, rfl⟩ : ∃ i : Nat, q = i := ⟨q.toNat, by omega⟩
  have a := h i (List.mem_range.mpr (by omega))
  rw [Bool.or_eq_true] at a
  rcases a with c | c
  · rw [Bool.not_eq_true', decide_eq_false_iff_not] at c
    exact absurd q1 c
  · exact of_decide_eq_true c
theorem faI_no {s : List Int} : ∀ k : Nat, (∀ q : Int, 0 ≤ q → q < (k : Int) → ¬ fnL s q < fnL s (q + 1)) → faI s k = -1
  | 0, _ => rfl
  | k + 1, h => by
    unfold faI
    rw [if_neg (h (k : Int) (by omega) (by omega))]
    exact faI_no k (fun q q0 q1 => h q q0 (by omega))
theorem nxO_t {N : Nat} {s t : List Int} (h : nxO N s t = true) : (0 ≤ aO N s ∧ aO N s + 1 < (N : Int)) ∧ fnL s (aO N s) < fnL s (aO N s + 1) ∧ (aO N s < bO N s ∧ bO N s < (N : Int)) ∧ fnL s (aO N s) < fnL s (bO N s) ∧ ∀ q : Int, 0 ≤ q → q < (N : Int) → (aO N s < q → q + 1 < (N : Int) → fnL s (q + 1) < fnL s q) ∧ (bO N s < q → fnL s q < fnL s (aO N s)) ∧ fnL t q = nxF (fnL s) (N : Int) (aO N s) (bO N s) q := by
  have hN : N ≠ 0 := fun e => by
    subst e
    have : nxO 0 s t = false := rfl
    rw [this] at h
    exact absurd h (by decide)
  have e : aO N s = faI s (N - 1) := if_neg hN
  unfold nxO at h
  unfold bO
  rw [e]
  simp only [Bool.and_eq_true, decide_eq_true_eq, List.all_eq_true, Bool.or_eq_true, Bool.not_eq_true', decide_eq_false_iff_not, Bool.and_eq_false_iff] at h
  obtain ⟨⟨⟨⟨⟨⟨h1, h2⟩, h3⟩, h4⟩, h5⟩, h6⟩, h7⟩ := h
  refine ⟨⟨h1, h2⟩, h3, ⟨h4, h5⟩, h6, fun q q0 q1 => ?_⟩
  obtain ⟨i, rfl⟩ : ∃ i : Nat, q = i := ⟨q.toNat, by omega⟩
  obtain ⟨⟨a, b⟩, c⟩ := h7 i (List.mem_range.mpr (by omega))
  refine ⟨fun g1 g2 => ?_, fun g1 => ?_, c⟩
  · rcases a with (a | a) | a
    · exact absurd g1 a
    · exact absurd g2 a
    · exact a
  · rcases b with b | b
    · exact absurd g1 b
    · exact b
/-- the line that an order of places stands for -/
abbrev ln (u : Int → Int) (s : List Int) : Int → Int := fnL (s.map u)
theorem nx_last {N : Nat} {s : List Int} {u : Int → Int} (hu : INC u N) (hi : inO N s = true) (hl : laO N s = true) : NXH (ln u s) N (aO N s) (bO N s) ∧ aO N s < 0 := by
  obtain ⟨hs, hr⟩ := inO_t hi
  have la := laO_t hl
  have neg : aO N s < 0 := by
    unfold aO
    by_cases c : N = 0
    · rw [if_pos c]; decide
    · rw [if_neg c, faI_no (N - 1) (fun q q0 q1 => by have := la q q0 (by omega); omega)]; decide
  have cases2 : (aO N s = -2 ∧ (N : Int) = 0) ∨ (aO N s = -1 ∧ 1 ≤ (N : Int)) := by
    unfold aO
    by_cases c : N = 0
    · rw [if_pos c]; exact Or.inl ⟨rfl, by omega⟩
    · rw [if_neg c, faI_no (N - 1) (fun q q0 q1 => by have := la q q0 (by omega); omega)]; exact Or.inr ⟨rfl, by omega⟩
  refine ⟨⟨cases2.elim Or.inl (fun c => Or.inr (Or.inl c)), fun c => absurd c (by omega), fun q _ q0 q1 => ?_, fun c => absurd c (by omega), fun q c => absurd c (by omega)⟩, neg⟩
  show fnL (s.map u) (q + 1) < fnL (s.map u) q
  rw [fnL_map u s (by omega) (by omega), fnL_map u s q0 (by omega)]
  exact (INC_lt hu (hr (q + 1) (by omega) (by omega)).1 (hr q q0 (by omega)).1).mp (la q q0 q1)
theorem nx_next {N : Nat} {s t : List Int} {u : Int → Int} (hu : INC u N) (hi : inO N s = true) (ht : inO N t = true) (h : nxO N s t = true) : NXH (ln u s) N (aO N s) (bO N s) ∧ 0 ≤ aO N s ∧ ∀ q : Int, 0 ≤ q → q < (N : Int) → nxF (ln u s) N (aO N s) (bO N s) q = ln u t q := by
  obtain ⟨hs, hr⟩ := inO_t hi
  obtain ⟨htl, _⟩ := inO_t ht
  obtain ⟨⟨a0, a1⟩, g1, ⟨b0, b1⟩, g2, hq⟩ := nxO_t h
  have at' : ∀ q : Int, 0 ≤ q → q < (N : Int) → ln u s q = u (fnL s q) := fun q q0 q1 => fnL_map u s q0 (by omega)
  have lt' : ∀ p q : Int, 0 ≤ p → p < (N : Int) → 0 ≤ q → q < (N : Int) → fnL s p < fnL s q → ln u s p < ln u s q := fun p q p0 p1 q0 q1 c => by
    rw [at' p p0 p1, at' q q0 q1]
    exact (INC_lt hu (hr p p0 p1).1 (hr q q0 q1).1).mp c
  refine ⟨⟨Or.inr (Or.inr ⟨a0, a1⟩), fun _ => Int.le_of_lt (lt' _ _ a0 (by omega) (by omega) a1 g1), fun q c q0 q1 => lt' _ _ (by omega) (by omega) q0 (by omega) ((hq q q0 (by omega)).1 c q1), fun _ => ⟨b0, b1, Int.le_of_lt (lt' _ _ a0 (by omega) (by omega) b1 g2)⟩, fun q _ c q1 => lt' _ _ (by omega) q1 a0 (by omega) ((hq q (by omega) q1).2.1 c)⟩, a0, fun q q0 q1 => ?_⟩
  show _ = fnL (t.map u) q
  rw [fnL_map u t q0 (by omega), (hq q q0 q1).2.2]
  unfold nxF nxS
  by_cases c : q ≤ aO N s
  · rw [if_pos c, if_pos c, at' (bO N s) (by omega) b1, at' (aO N s) a0 (by omega), at' q q0 q1]
    by_cases d : q = aO N s
    · rw [if_pos d, if_pos d]
    · rw [if_neg d, if_neg d]
      by_cases e : q = bO N s
      · rw [if_pos e, if_pos e]
      · rw [if_neg e, if_neg e]
  · rw [if_neg c, if_neg c, at' (bO N s) (by omega) b1, at' (aO N s) a0 (by omega), at' (N + aO N s - q) (by omega) (by omega)]
    by_cases d : (N : Int) + aO N s - q = aO N s
    · rw [if_pos d, if_pos d]
    · rw [if_neg d, if_neg d]
      by_cases e : (N : Int) + aO N s - q = bO N s
      · rw [if_pos e, if_pos e]
      · rw [if_neg e, if_neg e]
