/-! the orders, as the next of each comes after it -/
def sel : List Int → List (Int × List Int)
  | [] => []
  | a :: l => (a, l) :: (sel l).map (fun p => (p.1, a :: p.2))
def pm : Nat → List Int → List (List Int)
  | 0, _ => [[]]
  | k + 1, U => (sel U).flatMap (fun p => (pm k p.2).map (p.1 :: ·))
theorem sel_map (f : Int → Int) : ∀ U : List Int, sel (U.map f) = (sel U).map (fun p => (f p.1, p.2.map f))
  | [] => rfl
  | a :: l => by
    show (f a, l.map f) :: (sel (l.map f)).map (fun p => (p.1, f a :: p.2)) = (f a, l.map f) :: ((sel l).map (fun p => (p.1, a :: p.2))).map (fun p => (f p.1, p.2.map f))
    rw [sel_map f l, List.map_map, List.map_map]
    rfl
theorem pm_map (f : Int → Int) : ∀ (k : Nat) (U : List Int), pm k (U.map f) = (pm k U).map (List.map f)
  | 0, _ => rfl
  | k + 1, U => by
    show (sel (U.map f)).flatMap (fun p => (pm k p.2).map (p.1 :: ·)) = ((sel U).flatMap (fun p => (pm k p.2).map (p.1 :: ·))).map (List.map f)
    rw [sel_map, List.flatMap_map, List.map_flatMap]
    congr 1
    funext p
    show (pm k (p.2.map f)).map (f p.1 :: ·) = ((pm k p.2).map (p.1 :: ·)).map (List.map f)
    rw [pm_map f k p.2, List.map_map, List.map_map]
    rfl
theorem sel_app (b : Int) : ∀ A : List Int, sel (A ++ [b]) = (sel A).map (fun p => (p.1, p.2 ++ [b])) ++ [(b, A)]
  | [] => rfl
  | a :: l => by
    show (a, l ++ [b]) :: (sel (l ++ [b])).map (fun p => (p.1, a :: p.2)) = _
    rw [sel_app b l, List.map_append, List.map_map]
    show _ = (a, l ++ [b]) :: (((sel l).map (fun p => (p.1, a :: p.2))).map (fun p => (p.1, p.2 ++ [b])) ++ [(b, a :: l)])
    rw [List.map_map]
    rfl
def fil (P : Int → Bool) : Nat → List Int
  | 0 => []
  | k + 1 => fil P k ++ (if P (k : Int) then [(k : Int)] else [])
theorem fil_c {P Q : Int → Bool} : ∀ n : Nat, (∀ i : Nat, i < n → P (i : Int) = Q (i : Int)) → fil P n = fil Q n
  | 0, _ => rfl
  | n + 1, h => by
    show fil P n ++ (if P (n : Int) then [(n : Int)] else []) = fil Q n ++ (if Q (n : Int) then [(n : Int)] else [])
    rw [fil_c n (fun i hi => h i (by omega)), h n (by omega)]
theorem fil_in {P : Int → Bool} {i : Int} : ∀ n : Nat, i ∈ fil P n → 0 ≤ i ∧ i < n ∧ P i = true
  | 0, h => absurd h (List.not_mem_nil)
  | n + 1, h => by
    rcases List.mem_append.mp h with q | q
    · have := fil_in n q
      exact ⟨this.1, by omega, this.2.2⟩
    · by_cases c : P (n : Int)
      · rw [if_pos c] at q
        have e := List.mem_singleton.mp q
        subst e
        exact ⟨by omega, by omega, c⟩
      · rw [if_neg c] at q
        exact absurd q (List.not_mem_nil)
theorem sel_fil (P : Int → Bool) : ∀ n : Nat, sel (fil P n) = (fil P n).map (fun i => (i, fil (Pm P i) n))
  | 0 => rfl
  | n + 1 => by
    have ih := sel_fil P n
    by_cases c : P (n : Int) = true
    · have e : fil P (n + 1) = fil P n ++ [(n : Int)] := by show fil P n ++ (if P (n : Int) then [(n : Int)] else []) = _; rw [if_pos c]
      rw [e, sel_app, ih, List.map_append, List.map_map]
      congr 1
      · refine List.map_congr_left (fun i hi => ?_)
        have hq := fil_in n hi
        show (i, fil (Pm P i) n ++ [(n : Int)]) = (i, fil (Pm P i) n ++ (if Pm P i (n : Int) then [(n : Int)] else []))
        rw [if_pos (show Pm P i (n : Int) = true by have : (n : Int) ≠ i := by omega
                                                    simp [Pm, c, this])]
      · show [((n : Int), fil P n)] = [((n : Int), fil (Pm P (n : Int)) n ++ (if Pm P (n : Int) (n : Int) then [(n : Int)] else []))]
        rw [if_neg (show ¬ Pm P (n : Int) (n : Int) = true by simp [Pm]), List.append_nil, fil_c (P := Pm P (n : Int)) (Q := P) n (fun i hi => by
          have : (i : Int) ≠ (n : Int) := by omega
          simp [Pm, this])]
    · have e : fil P (n + 1) = fil P n := by show fil P n ++ (if P (n : Int) then [(n : Int)] else []) = _; rw [if_neg c, List.append_nil]
      rw [e, ih]
      refine List.map_congr_left (fun i hi => ?_)
      show (i, fil (Pm P i) n) = (i, fil (Pm P i) n ++ (if Pm P i (n : Int) then [(n : Int)] else []))
      rw [if_neg (show ¬ Pm P i (n : Int) = true by simp [Pm, c]), List.append_nil]
theorem lxM_fil (P : Int → Bool) (g : Int → List (List Int)) : ∀ m : Nat, lxM P g m = (fil P m).flatMap g
  | 0 => rfl
  | m + 1 => by
    show lxM P g m ++ (if P (m : Int) then g (m : Int) else []) = (fil P m ++ (if P (m : Int) then [(m : Int)] else [])).flatMap g
    rw [lxM_fil P g m, List.flatMap_append]
    congr 1
    by_cases c : P (m : Int) = true
    · rw [if_pos c, if_pos c]; simp
    · rw [if_neg c, if_neg c]; rfl
theorem lx_pm (n : Nat) : ∀ (k : Nat) (P : Int → Bool), lx n k P = pm k (fil P n)
  | 0, _ => rfl
  | k + 1, P => by
    show lxM P (fun i => (lx n k (Pm P i)).map (i :: ·)) n = (sel (fil P n)).flatMap (fun p => (pm k p.2).map (p.1 :: ·))
    rw [lxM_fil, sel_fil, List.flatMap_map]
    congr 1
    funext i
    rw [lx_pm n k (Pm P i)]
theorem unN_fil (z : gX) : ∀ n : Nat, unN z n = fil (utP z) n
  | 0 => rfl
  | n + 1 => by
    show unN z n ++ (if z 6 (n : Int) 0 = -9 then [(n : Int)] else []) = fil (utP z) n ++ (if utP z (n : Int) then [(n : Int)] else [])
    rw [unN_fil z n]
    by_cases c : z 6 (n : Int) 0 = -9
    · rw [if_pos c, if_pos (by simp [utP, c])]
    · rw [if_neg c, if_neg (by simp [utP, c])]
/-! one order and the next, by places -/
def ixL (N : Nat) : List Int := (List.range N).map (fun i : Nat => (i : Int))
def faI (s : List Int) : Nat → Int
  | 0 => -1
  | k + 1 => if fnL s (k : Int) < fnL s ((k : Int) + 1) then (k : Int) else faI s k
def fbI (s : List Int) (a : Int) : Nat → Int
  | 0 => 0
  | k + 1 => if fnL s a < fnL s (k : Int) then (k : Int) else fbI s a k
def nxO (N : Nat) (s t : List Int) : Bool :=
  let a := faI s (N - 1)
  let b := fbI s a N
  decide (0 ≤ a) && decide (a + 1 < (N : Int)) && decide (fnL s a < fnL s (a + 1)) && decide (a < b) && decide (b < (N : Int)) && decide (fnL s a < fnL s b) && (List.range N).all (fun q => (!(decide (a < (q : Int)) && decide ((q : Int) + 1 < (N : Int))) || decide (fnL s ((q : Int) + 1) < fnL s (q : Int))) && (!(decide (b < (q : Int))) || decide (fnL s (q : Int) < fnL s a)) && decide (fnL t (q : Int) = nxF (fnL s) (N : Int) a b (q : Int)))
def laO (N : Nat) (s : List Int) : Bool := (List.range N).all (fun q => !(decide ((q : Int) + 1 < (N : Int))) || decide (fnL s ((q : Int) + 1) < fnL s (q : Int)))
def inO (N : Nat) (s : List Int) : Bool := decide (s.length = N) && (List.range N).all (fun q => decide (0 ≤ fnL s (q : Int)) && decide (fnL s (q : Int) < (N : Int)) && (List.range N).all (fun p => !(decide ((p : Int) < (q : Int))) || decide (fnL s (p : Int) ≠ fnL s (q : Int))))
def chO (N : Nat) : List (List Int) → Bool
  | [] => false
  | [s] => inO N s && laO N s
  | s :: t :: l => inO N s && nxO N s t && chO N (t :: l)
set_option maxRecDepth 100000 in
theorem chO_5 : chO 0 (pm 0 (ixL 0)) = true ∧ chO 1 (pm 1 (ixL 1)) = true ∧ chO 2 (pm 2 (ixL 2)) = true ∧ chO 3 (pm 3 (ixL 3)) = true ∧ chO 4 (pm 4 (ixL 4)) = true := by decide +kernel
set_option maxRecDepth 100000 in
theorem chO_6 : chO 5 (pm 5 (ixL 5)) = true ∧ chO 6 (pm 6 (ixL 6)) = true := by decide +kernel
