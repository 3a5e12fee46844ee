abbrev unU (z : gX) : List Int := unN z (z 10 0 0).toNat
abbrev unL (z : gX) : Nat := (unU z).length
theorem ut_n (z : gX) : ∀ n : Nat, ((unN z n).length : Int) = sumN (fun i => if utP z i = true then 1 else 0) n
  | 0 => rfl
  | n + 1 => by
    show ((unN z n ++ (if z 6 (n : Int) 0 = -9 then [(n : Int)] else [])).length : Int) = sumN (fun i => if utP z i = true then 1 else 0) n + (if utP z (n : Int) = true then 1 else 0)
    rw [← ut_n z n, List.length_append]
    by_cases c : z 6 (n : Int) 0 = -9
    · rw [if_pos c, if_pos (by simp [utP, c])]; rfl
    · rw [if_neg c, if_neg (by simp [utP, c])]; rfl
theorem ut_L (z : gX) : utN z = (unL z : Int) := (ut_n z _).symm
theorem un_INC (z : gX) : ∀ n : Nat, INC (fnL (unN z n)) ((unN z n).length : Int)
  | 0 => fun p q p0 pq q1 => by
    have e : ((unN z 0).length : Int) = 0 := rfl
    omega
  | n + 1 => fun p q p0 pq q1 => by
    have ih := un_INC z n
    by_cases c : z 6 (n : Int) 0 = -9
    · have e : unN z (n + 1) = unN z n ++ [(n : Int)] := by show unN z n ++ (if z 6 (n : Int) 0 = -9 then [(n : Int)] else []) = _; rw [if_pos c]
      rw [e] at q1 ⊢
      rw [List.length_append] at q1
      have q2 : q < ((unN z n).length : Int) + 1 := by have : ((([(n : Int)] : List Int).length : Nat) : Int) = 1 := rfl; omega
      rw [fnL_app (unN z n) [(n : Int)] p0 (by omega)]
      by_cases d : q = ((unN z n).length : Int)
      · rw [d, fnL_at]
        have hin : fnL (unN z n) p ∈ unN z n := by
          obtain ⟨i, rfl⟩ : ∃ i : Nat, p = i := ⟨p.toNat, by omega⟩
          rw [fnL_get (unN z n) (by omega)]
          exact List.getElem_mem _
        rw [unN_fil] at hin
        rw [unN_fil]
        exact (fil_in n hin).2.1
      · rw [fnL_app (unN z n) [(n : Int)] (by omega) (by omega)]
        exact ih p q p0 pq (by omega)
    · have e : unN z (n + 1) = unN z n := by show unN z n ++ (if z 6 (n : Int) 0 = -9 then [(n : Int)] else []) = _; rw [if_neg c, List.append_nil]
      rw [e] at q1 ⊢
      exact ih p q p0 pq q1
theorem un_at {z : gX} (h10 : 0 ≤ z 10 0 0) {q : Int} (q0 : 0 ≤ q) (q1 : q < (unL z : Int)) : (0 ≤ fnL (unU z) q ∧ fnL (unU z) q < z 10 0 0) ∧ z 6 (fnL (unU z) q) 0 = -9 := by
  have hin : fnL (unU z) q ∈ unU z := by
    obtain ⟨i, rfl⟩ : ∃ i : Nat, q = i := ⟨q.toNat, by omega⟩
    rw [fnL_get (unU z) (by have q2 : (i : Int) < ((unU z).length : Int) := q1; omega)]
    exact List.getElem_mem _
  have hin2 : fnL (unU z) q ∈ fil (utP z) (z 10 0 0).toNat := by rw [← unN_fil]; exact hin
  have := fil_in _ hin2
  exact ⟨⟨this.1, by omega⟩, of_decide_eq_true this.2.2⟩
theorem ln_LN {z : gX} {s : List Int} (h10 : 0 ≤ z 10 0 0) (hi : inO (unL z) s = true) : LN z (ln (fnL (unU z)) s) (unL z : Int) := by
  obtain ⟨hs, hr⟩ := inO_t hi
  have at' : ∀ q : Int, 0 ≤ q → q < (unL z : Int) → ln (fnL (unU z)) s q = fnL (unU z) (fnL s q) := fun q q0 q1 => fnL_map _ s q0 (by omega)
  refine ⟨fun j j0 j1 => ?_, fun j k j0 jk k1 => ?_⟩
  · rw [at' j j0 j1]
    exact un_at h10 (hr j j0 j1).1.1 (hr j j0 j1).1.2
  · rw [at' j j0 (by omega), at' k (by omega) k1]
    have ne := (hr k (by omega) k1).2 j j0 jk
    have hj := (hr j j0 (by omega)).1
    have hk := (hr k (by omega) k1).1
    have inc := un_INC z (z 10 0 0).toNat
    rcases (show fnL s j < fnL s k ∨ fnL s k < fnL s j by omega) with c | c
    · exact Int.ne_of_lt (inc _ _ hj.1 c hk.2)
    · exact (Int.ne_of_lt (inc _ _ hk.1 c hj.2)).symm
theorem hd_pm {N : Nat} (h : N ≤ 6) : (pm N (ixL N)).head? = some (ixL N) := by
  rcases (show N = 0 ∨ N = 1 ∨ N = 2 ∨ N = 3 ∨ N = 4 ∨ N = 5 ∨ N = 6 by omega) with e | e | e | e | e | e | e <;> subst e <;> decide +kernel
theorem hd_ex {N : Nat} (h : N ≤ 6) : ∃ t, pm N (ixL N) = ixL N :: t := by
  have e := hd_pm h
  cases hp : pm N (ixL N) with
  | nil => rw [hp] at e; cases e
  | cons a t => rw [hp] at e; exact ⟨t, by rw [Option.some.inj e]⟩
/-- all orders of those left, by places -/
abbrev aLL (z : gX) : List (List Int) := pm (unL z) (ixL (unL z))
abbrev vL (z : gX) : List Int → Int := vlL z (unL z : Int)
abbrev mU (z : gX) (l : List (List Int)) : List (List Int) := l.map (List.map (fnL (unU z)))
theorem ord_eq (z : gX) : ordB z = bst (vL z) (mU z (aLL z)) (7, []) := by
  unfold ordB
  rw [ut_L, Int.toNat_natCast, lx_pm, ← unN_fil, pm_ix]
theorem ord_999 {z : gX} (hN : NOK z) (h6 : unL z ≤ 6) : bst (vL z) (mU z (aLL z)) (999, []) = ordB z := by
  obtain ⟨t, e⟩ : ∃ t, aLL z = ixL (unL z) :: t := hd_ex h6
  rw [ord_eq, e]
  have r : vL z ((ixL (unL z)).map (fnL (unU z))) ≤ ((unL z : Int).toNat : Int) := (vlL_0 hN (unL z : Int) ((ixL (unL z)).map (fnL (unU z)))).2
  rw [Int.toNat_natCast] at r
  have r6 : vL z ((ixL (unL z)).map (fnL (unU z))) ≤ 6 := Int.le_trans r (Int.ofNat_le.mpr h6)
  show bst (vL z) (mU z t) (if vL z ((ixL (unL z)).map (fnL (unU z))) < 999 then _ else _) = bst (vL z) (mU z t) (if vL z ((ixL (unL z)).map (fnL (unU z))) < 7 then _ else _)
  rw [if_pos (Int.lt_of_le_of_lt r6 (by decide)), if_pos (Int.lt_of_le_of_lt r6 (by decide))]
/-- the line of now and those after it -/
def OLN (z : gX) (w : gY) (l : List (List Int)) (h : Int) : Prop := (h = 0 ∧ l = []) ∨ (h = 1 ∧ ∃ s t, l = s :: t ∧ chO (unL z) (s :: t) = true ∧ ∀ q : Int, 0 ≤ q → q < (unL z : Int) → w 52 q = ln (fnL (unU z)) s q)
theorem OLN_01 {z : gX} {w : gY} {l : List (List Int)} {h : Int} (g : OLN z w l h) : h = 0 ∨ h = 1 := g.elim (fun c => Or.inl c.1) (fun c => Or.inr c.1)
theorem OLN_0 {z : gX} {w : gY} {l : List (List Int)} {h : Int} (g : OLN z w l h) (c : h = 0) : l = [] := g.elim (fun d => d.2) (fun d => absurd d.1 (by omega))
theorem OLN_1 {z : gX} {w : gY} {l : List (List Int)} {h : Int} (g : OLN z w l h) (c : ¬ h = 0) : ∃ s t, l = s :: t ∧ chO (unL z) (s :: t) = true ∧ ∀ q : Int, 0 ≤ q → q < (unL z : Int) → w 52 q = ln (fnL (unU z)) s q := g.elim (fun d => absurd d.1 c) (fun d => d.2)
theorem chO_in {N : Nat} {s : List Int} {t : List (List Int)} (h : chO N (s :: t) = true) : inO N s = true := by
  cases t with
  | nil => exact ((Bool.and_eq_true _ _).mp h).1
  | cons a b => exact ((Bool.and_eq_true _ _).mp ((Bool.and_eq_true _ _).mp h).1).1
theorem chO_nx {z : gX} {s : List Int} {t : List (List Int)} (h : chO (unL z) (s :: t) = true) : NXH (ln (fnL (unU z)) s) (unL z : Int) (aO (unL z) s) (bO (unL z) s) ∧ ∀ y w : gY, NXP y w (ln (fnL (unU z)) s) (unL z : Int) (aO (unL z) s) (bO (unL z) s) → OLN z w t (if 0 ≤ aO (unL z) s then 1 else 0) := by
  have inc := un_INC z (z 10 0 0).toNat
  have hi := chO_in h
  cases t with
  | nil =>
    have hl := ((Bool.and_eq_true _ _).mp h).2
    obtain ⟨a, b⟩ := nx_last inc hi hl
    exact ⟨a, fun y w _ => Or.inl ⟨if_neg (Int.not_le.mpr b), rfl⟩⟩
  | cons t l =>
    have h1 := (Bool.and_eq_true _ _).mp h
    have h2 := (Bool.and_eq_true _ _).mp h1.1
    obtain ⟨a, b, c⟩ := nx_next inc hi (chO_in h1.2) h2.2
    exact ⟨a, fun y w g => Or.inr ⟨if_pos b, t, l, rfl, h1.2, fun q q0 q1 => by rw [g.2 b q q0 q1]; exact c q q0 q1⟩⟩
