/-! orders: the rows that are tried, and the one by numbers -/
def sel : List Int → List (Int × List Int)
  | [] => []
  | a :: l => (a, l) :: (sel l).map (fun p => (p.1, a :: p.2))
def pm : Nat → List Int → List (List Int)
  | 0, _ => [[]]
  | k + 1, U => (sel U).flatMap (fun p => (pm k p.2).map (p.1 :: ·))
def fil (P : Int → Bool) : Nat → List Int
  | 0 => []
  | k + 1 => fil P k ++ (if P (k : Int) then [(k : Int)] else [])
theorem fil_c {P Q : Int → Bool} : ∀ n : Nat, (∀ i : Nat, i < n → P (i : Int) = Q (i : Int)) → fil P n = fil Q n
  | 0, _ => rfl
  | n + 1, h => by
    show fil P n ++ (if P (n : Int) then [(n : Int)] else []) = fil Q n ++ (if Q (n : Int) then [(n : Int)] else [])
    rw [fil_c n (fun i hi => h i (by omega)), h n (by omega)]
theorem fil_in {P : Int → Bool} {i : Int} : ∀ n : Nat, i ∈ fil P n → 0 ≤ i ∧ i < n ∧ P i = true
  | 0, h => absurd h (List.not_mem_nil)
  | n + 1, h => by
    rcases List.mem_append.mp h with q | q
    · have := fil_in n q
      exact ⟨this.1, by omega, this.2.2⟩
    · by_cases c : P (n : Int)
      · rw [if_pos c] at q
        have e := List.mem_singleton.mp q
        subst e
        exact ⟨by omega, by omega, c⟩
      · rw [if_neg c] at q
        exact absurd q (List.not_mem_nil)
theorem sel_app (b : Int) : ∀ A : List Int, sel (A ++ [b]) = (sel A).map (fun p => (p.1, p.2 ++ [b])) ++ [(b, A)]
  | [] => rfl
  | a :: l => by
    show (a, l ++ [b]) :: (sel (l ++ [b])).map (fun p => (p.1, a :: p.2)) = _
    rw [sel_app b l, List.map_append, List.map_map]
    show _ = (a, l ++ [b]) :: (((sel l).map (fun p => (p.1, a :: p.2))).map (fun p => (p.1, p.2 ++ [b])) ++ [(b, a :: l)])
    rw [List.map_map]
    rfl
theorem sel_fil (P : Int → Bool) : ∀ n : Nat, sel (fil P n) = (fil P n).map (fun i => (i, fil (Pm P i) n))
  | 0 => rfl
  | n + 1 => by
    have ih := sel_fil P n
    by_cases c : P (n : Int) = true
    · have e : fil P (n + 1) = fil P n ++ [(n : Int)] := by show fil P n ++ (if P (n : Int) then [(n : Int)] else []) = _; rw [if_pos c]
      rw [e, sel_app, ih, List.map_append, List.map_map]
      congr 1
      · refine List.map_congr_left (fun i hi => ?_)
        have hq := fil_in n hi
        show (i, fil (Pm P i) n ++ [(n : Int)]) = (i, fil (Pm P i) n ++ (if Pm P i (n : Int) then [(n : Int)] else []))
        rw [if_pos (show Pm P i (n : Int) = true by have : (n : Int) ≠ i := by omega
                                                    simp [Pm, c, this])]
      · show [((n : Int), fil P n)] = [((n : Int), fil (Pm P (n : Int)) n ++ (if Pm P (n : Int) (n : Int) then [(n : Int)] else []))]
        rw [if_neg (show ¬ Pm P (n : Int) (n : Int) = true by simp [Pm]), List.append_nil, fil_c (P := Pm P (n : Int)) (Q := P) n (fun i hi => by
          have : (i : Int) ≠ (n : Int) := by omega
          simp [Pm, this])]
    · have e : fil P (n + 1) = fil P n := by show fil P n ++ (if P (n : Int) then [(n : Int)] else []) = _; rw [if_neg c, List.append_nil]
      rw [e, ih]
      refine List.map_congr_left (fun i hi => ?_)
      show (i, fil (Pm P i) n) = (i, fil (Pm P i) n ++ (if Pm P i (n : Int) then [(n : Int)] else []))
      rw [if_neg (show ¬ Pm P i (n : Int) = true by simp [Pm, c]), List.append_nil]
theorem lxM_fil (P : Int → Bool) (g : Int → List (List Int)) : ∀ m : Nat, lxM P g m = (fil P m).flatMap g
  | 0 => rfl
  | m + 1 => by
    show lxM P g m ++ (if P (m : Int) then g (m : Int) else []) = (fil P m ++ (if P (m : Int) then [(m : Int)] else [])).flatMap g
    rw [lxM_fil P g m, List.flatMap_append]
    congr 1
    by_cases c : P (m : Int) = true
    · rw [if_pos c, if_pos c]; simp
    · rw [if_neg c, if_neg c]; rfl
theorem lx_pm (n : Nat) : ∀ (k : Nat) (P : Int → Bool), lx n k P = pm k (fil P n)
  | 0, _ => rfl
  | k + 1, P => by
    show lxM P (fun i => (lx n k (Pm P i)).map (i :: ·)) n = (sel (fil P n)).flatMap (fun p => (pm k p.2).map (p.1 :: ·))
    rw [lxM_fil, sel_fil, List.flatMap_map]
    congr 1
    funext i
    rw [lx_pm n k (Pm P i)]
def unN (z : gX) : Nat → List Int
  | 0 => []
  | k + 1 => unN z k ++ (if z 6 (k : Int) 0 = -9 then [(k : Int)] else [])
theorem unN_fil (z : gX) : ∀ n : Nat, unN z n = fil (utP z) n
  | 0 => rfl
  | n + 1 => by
    show unN z n ++ (if z 6 (n : Int) 0 = -9 then [(n : Int)] else []) = fil (utP z) n ++ (if utP z (n : Int) then [(n : Int)] else [])
    rw [unN_fil z n]
    by_cases c : z 6 (n : Int) 0 = -9
    · rw [if_pos c, if_pos (by simp [utP, c])]
    · rw [if_neg c, if_neg (by simp [utP, c])]
abbrev unU (z : gX) : List Int := unN z (z 10 0 0).toNat
abbrev unL (z : gX) : Nat := (unU z).length
theorem fnL_get (U : List Int) {i : Nat} (h : i < U.length) : fnL U (i : Int) = U[i] := by
  show U.getD (i : Int).toNat 0 = _
  rw [Int.toNat_natCast, List.getD_eq_getElem?_getD, List.getElem?_eq_getElem h]
  rfl
def INC (u : Int → Int) (N : Int) : Prop := ∀ p q : Int, 0 ≤ p → p < q → q < N → u p < u q
theorem ut_n (z : gX) : ∀ n : Nat, ((unN z n).length : Int) = sumN (fun i => if utP z i = true then 1 else 0) n
  | 0 => rfl
  | n + 1 => by
    show ((unN z n ++ (if z 6 (n : Int) 0 = -9 then [(n : Int)] else [])).length : Int) = sumN (fun i => if utP z i = true then 1 else 0) n + (if utP z (n : Int) = true then 1 else 0)
    rw [← ut_n z n, List.length_append]
    by_cases c : z 6 (n : Int) 0 = -9
    · rw [if_pos c, if_pos (by simp [utP, c])]; rfl
    · rw [if_neg c, if_neg (by simp [utP, c])]; rfl
theorem ut_L (z : gX) : utN z = (unL z : Int) := (ut_n z _).symm
theorem un_INC (z : gX) : ∀ n : Nat, INC (fnL (unN z n)) ((unN z n).length : Int)
  | 0 => fun p q p0 pq q1 => by
    have e : ((unN z 0).length : Int) = 0 := rfl
    omega
  | n + 1 => fun p q p0 pq q1 => by
    have ih := un_INC z n
    by_cases c : z 6 (n : Int) 0 = -9
    · have e : unN z (n + 1) = unN z n ++ [(n : Int)] := by show unN z n ++ (if z 6 (n : Int) 0 = -9 then [(n : Int)] else []) = _; rw [if_pos c]
      rw [e] at q1 ⊢
      rw [List.length_append] at q1
      have q2 : q < ((unN z n).length : Int) + 1 := by have : ((([(n : Int)] : List Int).length : Nat) : Int) = 1 := rfl; omega
      rw [fnL_app (unN z n) [(n : Int)] p0 (by omega)]
      by_cases d : q = ((unN z n).length : Int)
      · rw [d, fnL_at]
        have hin : fnL (unN z n) p ∈ unN z n := by
          obtain ⟨i, rfl⟩ : ∃ i : Nat, p = i := ⟨p.toNat, by omega⟩
          rw [fnL_get (unN z n) (by omega)]
          exact List.getElem_mem _
        rw [unN_fil] at hin
        rw [unN_fil]
        exact (fil_in n hin).2.1
      · rw [fnL_app (unN z n) [(n : Int)] (by omega) (by omega)]
        exact ih p q p0 pq (by omega)
    · have e : unN z (n + 1) = unN z n := by show unN z n ++ (if z 6 (n : Int) 0 = -9 then [(n : Int)] else []) = _; rw [if_neg c, List.append_nil]
      rw [e] at q1 ⊢
      exact ih p q p0 pq q1
theorem un_at {z : gX} (h10 : 0 ≤ z 10 0 0) {q : Int} (q0 : 0 ≤ q) (q1 : q < (unL z : Int)) : (0 ≤ fnL (unU z) q ∧ fnL (unU z) q < z 10 0 0) ∧ z 6 (fnL (unU z) q) 0 = -9 := by
  have hin : fnL (unU z) q ∈ unU z := by
    obtain ⟨i, rfl⟩ : ∃ i : Nat, q = i := ⟨q.toNat, by omega⟩
    rw [fnL_get (unU z) (by have q2 : (i : Int) < ((unU z).length : Int) := q1; omega)]
    exact List.getElem_mem _
  have hin2 : fnL (unU z) q ∈ fil (utP z) (z 10 0 0).toNat := by rw [← unN_fil]; exact hin
  have := fil_in _ hin2
  exact ⟨⟨this.1, by omega⟩, of_decide_eq_true this.2.2⟩
theorem orM_k (z : gX) (r : Int) {k : Int} (h1 : k ≠ 17) (h2 : k ≠ 20) : orM z r k = z k := by funext i j; unfold orM; rw [if_neg (fun q => h2 q.1), if_neg (fun q => h1 q.1)]
theorem lxM_mem {P : Int → Bool} {g : Int → List (List Int)} {s : List Int} : ∀ m : Nat, s ∈ lxM P g m → ∃ i : Nat, i < m ∧ P (i : Int) = true ∧ s ∈ g (i : Int)
  | 0, h => absurd h List.not_mem_nil
  | m + 1, h => by
    rcases List.mem_append.mp h with q | q
    · obtain ⟨i, h1, h2, h3⟩ := lxM_mem m q
      exact ⟨i, by omega, h2, h3⟩
    · by_cases c : P (m : Int) = true
      · rw [if_pos c] at q
        exact ⟨m, by omega, c, q⟩
      · rw [if_neg c] at q
        exact absurd q List.not_mem_nil
theorem lx_ok {n : Nat} : ∀ (k : Nat) (P : Int → Bool) (s : List Int), s ∈ lx n k P → s.length = k ∧ (∀ x ∈ s, (0 ≤ x ∧ x < (n : Int)) ∧ P x = true) ∧ s.Nodup
  | 0, P, s, h => by
    have e : s = [] := List.mem_singleton.mp h
    subst e
    exact ⟨rfl, fun x hx => absurd hx List.not_mem_nil, List.nodup_nil⟩
  | k + 1, P, s, h => by
    obtain ⟨i, hi, hP, hs⟩ := lxM_mem n h
    obtain ⟨t, ht, e⟩ := List.mem_map.mp hs
    subst e
    obtain ⟨h1, h2, h3⟩ := lx_ok k (Pm P (i : Int)) t ht
    have hx : ∀ x ∈ t, P x = true ∧ x ≠ (i : Int) := fun x hx => by
      have := (h2 x hx).2
      unfold Pm at this
      simpa using this
    refine ⟨by rw [List.length_cons, h1], fun x hx2 => ?_, List.nodup_cons.mpr ⟨fun c => (hx _ c).2 rfl, h3⟩⟩
    rcases List.mem_cons.mp hx2 with q | q
    · subst q; exact ⟨⟨by omega, by omega⟩, hP⟩
    · exact ⟨(h2 x q).1, (hx x q).1⟩
theorem bst_mem (v : List Int → Int) : ∀ (A : List (List Int)) (b : Int × List Int), bst v A b = b ∨ ∃ s ∈ A, bst v A b = (v s, s)
  | [], b => Or.inl rfl
  | s :: t, b => by
    show bst v t (if v s < b.1 then (v s, s) else b) = b ∨ ∃ q ∈ s :: t, bst v t (if v s < b.1 then (v s, s) else b) = (v q, q)
    by_cases c : v s < b.1
    · rw [if_pos c]
      rcases bst_mem v t (v s, s) with q | ⟨q, hq, e⟩
      · exact Or.inr ⟨s, List.mem_cons_self, q⟩
      · exact Or.inr ⟨q, List.mem_cons_of_mem _ hq, e⟩
    · rw [if_neg c]
      rcases bst_mem v t b with q | ⟨q, hq, e⟩
      · exact Or.inl q
      · exact Or.inr ⟨q, List.mem_cons_of_mem _ hq, e⟩
theorem ord_mem {z : gX} (hN : NOK z) : (ordB z).2 ∈ lx (z 10 0 0).toNat (utN z).toNat (utP z) ∧ (ordB z).1 = vlL z (utN z) (ordB z).2 := by
  have h7 := (ordB_r hN).2
  rcases bst_mem (vlL z (utN z)) (lx (z 10 0 0).toNat (utN z).toNat (utP z)) (7, []) with q | ⟨s, hs, e⟩
  · have e2 : ordB z = (7, []) := q
    rw [e2] at h7
    exact absurd h7 (by decide)
  · have e2 : ordB z = (vlL z (utN z) s, s) := e
    rw [e2]
    exact ⟨hs, rfl⟩
theorem pm_self : ∀ U : List Int, U ∈ pm U.length U
  | [] => List.mem_singleton.mpr rfl
  | a :: l => by
    show (a :: l) ∈ (sel (a :: l)).flatMap (fun p => (pm l.length p.2).map (p.1 :: ·))
    rw [List.mem_flatMap]
    exact ⟨(a, l), List.mem_cons_self, List.mem_map.mpr ⟨l, pm_self l, rfl⟩⟩
theorem un_mem (z : gX) : unU z ∈ lx (z 10 0 0).toNat (utN z).toNat (utP z) := by
  rw [lx_pm, ← unN_fil, ut_L]
  exact pm_self (unU z)
theorem ord_le {z : gX} : (ordB z).1 ≤ vlL z (utN z) (unU z) := bst_in _ _ _ _ (un_mem z)
/-- men not tried, each once -/
def OKF (z : gX) (f : Int → Int) (m : Int) : Prop := ∀ j : Int, 0 ≤ j → j < m → (0 ≤ f j ∧ f j < z 10 0 0) ∧ z 6 (f j) 0 = -9 ∧ ∀ p : Int, 0 ≤ p → p < j → f p ≠ f j
theorem OKF_lx {z : gX} (hN : NOK z) {s : List Int} (h : s ∈ lx (z 10 0 0).toNat (utN z).toNat (utP z)) : OKF z (fnL s) (utN z) := by
  obtain ⟨h1, h2, h3⟩ := lx_ok _ _ _ h
  have hr := utN_r hN
  intro j j0 j1
  obtain ⟨i, rfl⟩ : ∃ i : Nat, j = i := ⟨j.toNat, by omega⟩
  have hi : i < s.length := by omega
  rw [fnL_get s hi]
  have m := h2 _ (List.getElem_mem hi)
  have h10 := hN.2.1.1
  refine ⟨⟨m.1.1, by have := m.1.2; omega⟩, of_decide_eq_true m.2, fun p p0 p1 => ?_⟩
  obtain ⟨q, rfl⟩ : ∃ q : Nat, p = q := ⟨p.toNat, by omega⟩
  have hq : q < s.length := by omega
  rw [fnL_get s hq]
  intro c
  have := (List.getElem_inj h3).mp c
  omega
theorem OKF_or {z : gX} (hN : NOK z) : OKF z (fnL (ordB z).2) (utN z) := OKF_lx hN (ord_mem hN).1
theorem OKF_un {z : gX} (hN : NOK z) : OKF z (fnL (unU z)) (utN z) := OKF_lx hN (un_mem z)
theorem ord_v {z : gX} (hN : NOK z) : (ordB z).1 = (evN z (fnL (ordB z).2) (utN z).toNat).1 := (ord_mem hN).2
theorem ord_r {z : gX} (hN : NOK z) : 0 ≤ (ordB z).1 ∧ (ordB z).1 ≤ utN z := by
  have := vlL_0 hN (utN z) (ordB z).2
  have := utN_r hN
  rw [(ord_mem hN).2]
  omega
theorem left_n {z : gX} (hN : NOK z) : z 10 0 0 - pcZ (trU z) = utN z := by
  have h10 := hN.2.1
  have e := pc_n (P := fun i => z 6 i 0 ≠ -9) h10.1 (by omega)
  rw [show pcZ (trU z) = sumZ (fun i => if z 6 i 0 ≠ -9 then 1 else 0) (z 10 0 0) from e]
  have key : ∀ n : Nat, sumN (fun i => if z 6 i 0 ≠ -9 then 1 else 0) n + sumN (fun i => if utP z i = true then 1 else 0) n = (n : Int) := by
    intro n
    induction n with
    | zero => rfl
    | succ k ih =>
      show (sumN (fun i => if z 6 i 0 ≠ -9 then 1 else 0) k + (if z 6 (k : Int) 0 ≠ -9 then (1 : Int) else 0)) + (sumN (fun i => if utP z i = true then 1 else 0) k + (if utP z (k : Int) = true then 1 else 0)) = ((k + 1 : Nat) : Int)
      by_cases c : z 6 (k : Int) 0 = -9
      · rw [if_neg (fun d => d c), if_pos (by simp [utP, c])]; omega
      · rw [if_pos c, if_neg (by simp [utP, c])]; omega
  have q := key (z 10 0 0).toNat
  show z 10 0 0 - sumN _ (z 10 0 0).toNat = sumN _ (z 10 0 0).toNat
  omega
theorem orM_RWI {z : gX} (hz : INV z) : RWI (orM z 1) := fun r r0 r1 => by
  obtain ⟨a1, a2, a3⟩ := hz.2.1 r r0 r1
  have hr := utN_r hz.1
  have h10 := hz.1.2.1
  have ho := OKF_or hz.1
  refine ⟨?_, fun j => ?_, fun h6 j => ?_⟩
  · unfold orM
    rw [if_neg (fun c => absurd c.1 (by decide))]
    by_cases c : r = 1
    · rw [if_pos ⟨rfl, c, rfl⟩, if_pos (by omega)]; omega
    · rw [if_neg (fun d => c d.2.1)]; exact a1
  · unfold orM
    by_cases c : r = 1 ∧ 0 ≤ j ∧ j < utN z
    · rw [if_pos ⟨rfl, c⟩]
      have := (ho j c.2.1 c.2.2).1
      exact ⟨by omega, by omega⟩
    · rw [if_neg (fun d => c d.2), if_neg (fun d => absurd d.1 (by decide))]; exact a2 j
  · unfold orM
    rw [if_neg (by omega), if_neg (fun d => absurd d.1 (by decide))]; exact a3 h6 j
theorem ord_k {z u : gX} (hz : INV z) (hn : 1 ≤ z 10 0 0) (hG : xG (sOrder z 1).2 u) : KP z u u ∧ u 17 1 0 = utN z ∧ ∀ j : Int, 0 ≤ j → j < utN z → u 20 1 j = fnL (ordB z).2 j := by
  have e : sOrder z 1 = ((ordB z).1, orM z 1) := by
    unfold sOrder
    rw [show rRf z 1 = 0 by unfold rRf; rw [if_neg (by decide), if_neg (by omega)], if_neg (fun c => c rfl)]
  rw [e] at hG
  have hG : xG (orM z 1) u := hG
  have q : ∀ k i j : Int, ¬ scr k i → u k i j = orM z 1 k i j := hG.1
  have A : AT z (orM z 1) := AT_k (AT_rf hz) (fun k _ _ h17 _ _ h20 _ => orM_k z 1 h17 h20) (orM_RWI hz) (fun t ht => ⟨funext fun j => by unfold orM; rw [if_neg (by omega), if_neg (by omega)], funext fun j => by unfold orM; rw [if_neg (by omega), if_neg (by omega)]⟩)
  refine ⟨KP_at (AT_xG A hG), ?_, fun j j0 j1 => ?_⟩
  · rw [q 17 1 0 (by unfold scr; omega)]
    unfold orM
    rw [if_neg (by omega), if_pos ⟨rfl, rfl, rfl⟩]
  · rw [q 20 1 j (by unfold scr; omega)]
    unfold orM
    rw [if_pos ⟨rfl, rfl, j0, j1⟩]
/-- trials by a row of such men -/
theorem trd_k {z r u : gX} (A : KP z r u) (hn : 1 ≤ z 10 0 0) {R m : Int} {f : Int → Int} (hR : 0 ≤ R ∧ R < 6) (h17 : r 17 R 0 = m) (h20 : ∀ j : Int, 0 ≤ j → j < m → r 20 R j = f j) (hf : OKF z f m) (hm : 0 ≤ m ∧ m ≤ 6) : (sTried u R).1 = (evN z f m.toNat).1 ∧ KP z r (sTried u R).2 ∧ (sTried u R).2 19 0 0 = (evN z f m.toNat).2.2 := by
  have e10 := KP_10 A
  have e := A.1.2.1
  have g17 : u 17 R 0 = m := by rw [A.2.1]; exact h17
  have g20 : ∀ j : Int, 0 ≤ j → j < m → u 20 R j = f j := fun j a b => by rw [A.2.2]; exact h20 j a b
  have o : ofU u R = 0 := by
    unfold ofU
    rw [g17, if_neg (by omega), if_neg (by omega), if_pos]
    refine (mmZ_iff (P := fun j => mnN u (u 20 R j) ∧ u 6 (u 20 R j) 0 = -9 ∧ ocU u R j (u 20 R j) = 0) hm.1).mpr (fun j j0 j1 => ?_)
    have hj := hf j j0 j1
    rw [g20 j j0 j1]
    refine ⟨⟨hj.1.1, by rw [e10]; exact hj.1.2⟩, by rw [e 6 (f j) 0 (by omega)]; exact hj.2.1, ?_⟩
    exact sum_0 j0 (fun p p0 p1 => by rw [g20 p p0 (by omega), if_neg (hj.2.2 p p0 p1)])
  have hev : evZ u (u 20 R) (u 17 R 0) = evN z f m.toNat := by
    unfold evZ
    rw [g17, evN_c m.toNat (fun j j0 j1 => g20 j j0 (by omega))]
    exact evN_cE e f m.toNat (fun j j0 j1 => (hf j j0 (by omega)).1)
  have eq : sTried u R = ((evN z f m.toNat).1, xU u 19 0 0 (evN z f m.toNat).2.2) := by
    unfold sTried
    rw [show rRf u R = 0 by unfold rRf; rw [if_neg (fun c => c hR), if_neg (by omega)], if_neg (fun c => c rfl), o, if_neg (fun c => c rfl), hev]
  rw [eq]
  exact ⟨rfl, KP_tell A _, xU_same u 19 0 0 _⟩
/-- tried so, one behind the other -/
def RUN (z r : gX) (f : Int → Int) (k : Int) (u : gX) : Prop := EXT z u ∧ u 17 = r 17 ∧ u 20 = r 20 ∧ u 16 0 0 = z 16 0 0 + k ∧ twU u = twU z + (evN z f k.toNat).1 ∧ tcU u = (evN z f k.toNat).2.1 ∧ u 15 0 0 = (evN z f k.toNat).2.2 ∧ (∀ i : Int, 0 ≤ i → i < z 10 0 0 → u 5 i 0 = z 5 i 0 ∧ (z 6 i 0 = -9 → (∀ j : Int, 0 ≤ j → j < k → f j ≠ i) → u 6 i 0 = -9)) ∧ (k = 0 → KP z r u)
theorem RUN_0 {z r u : gX} (A : KP z r u) (f : Int → Int) : RUN z r f 0 u := by
  have e := A.1.2.1
  refine ⟨A.1.1, A.2.1, A.2.2, by have := A.1.2.2; omega, ?_, tcU_cE e, e 15 0 0 (by omega), fun i h0 h1 => ⟨e 5 i 0 (by omega), fun h6 _ => (e 6 i 0 (by omega)).trans h6⟩, fun _ => A⟩
  show twU u = twU z + 0
  rw [Int.add_zero]; exact twU_cE e
theorem RUN_tell {z r u : gX} {f : Int → Int} {k : Int} (h : RUN z r f k u) (v : Int) : RUN z r f k (xU u 19 0 0 v) := by
  obtain ⟨h1, h2, h3, h4, h5, h6, h7, h8, h9⟩ := h
  exact ⟨EXT_tr h1 (KP_tell (KP_rf h1.1) v).1.1, h2, h3, h4, h5, h6, h7, h8, fun c => KP_tell (h9 c) v⟩
theorem RUN_s {z r u : gX} {f : Int → Int} {k m : Int} (h : RUN z r f k u) (hz : INV z) (hf : OKF z f m) (hk : 0 ≤ k ∧ k < m) (h16 : z 16 0 0 + k < 40) : 0 ≤ (sTrial u (f k)).1 ∧ (sTrial u (f k)).1 ≤ 2 ∧ RUN z r f (k + 1) (sTrial u (f k)).2 := by
  obtain ⟨h1, h2, h3, h4, h5, h6, h7, h8, h9⟩ := h
  have hj := hf k hk.1 hk.2
  have e10 := EXT_10 h1
  have s := h8 (f k) hj.1.1 hj.1.2
  have u6 : u 6 (f k) 0 = -9 := s.2 hj.2.1 (fun j a b => hj.2.2 j a b)
  have i1 : f k < u 10 0 0 := by rw [e10]; exact hj.1.2
  have t := tri_ok h1.1 (by omega) hj.1.1 i1 u6
  have p := per2_t hj.1.1 i1 u6 (INV_UW h1.1 (f k) hj.1.1 i1 u6)
  have hS := h1.2.1
  have ev : ∀ q : Int, vU u (f k) q = vU z (f k) q := fun q => by
    have a1 := hS 1 (f k) 0 (by omega) (by omega)
    have a2 := hS 2 (f k) 0 (by omega) (by omega)
    have a3 := hS 3 (f k) 0 (by omega) (by omega)
    have a4 := hS 4 (f k) 0 (by omega) (by omega)
    have a11 := hS 11 0 0 (by omega) (by omega)
    have a12 := hS 12 0 0 (by omega) (by omega)
    have a13 := hS 13 0 0 (by omega) (by omega)
    show (fun (p mm he k g bb hd s : Int) => if sComes k g bb q then (if 0 < sBurn p mm k bb hd q - he - 2 * s then (0 : Int) else 1) else 2) (u 11 0 0) (u 12 0 0) (u 13 0 0) (u 1 (f k) 0) (u 2 (f k) 0) (u 3 (f k) 0) (u 4 (f k) 0) (u 5 (f k) 0) = (fun (p mm he k g bb hd s : Int) => if sComes k g bb q then (if 0 < sBurn p mm k bb hd q - he - 2 * s then (0 : Int) else 1) else 2) (z 11 0 0) (z 12 0 0) (z 13 0 0) (z 1 (f k) 0) (z 2 (f k) 0) (z 3 (f k) 0) (z 4 (f k) 0) (z 5 (f k) 0)
    rw [a1, a2, a3, a4, a11, a12, a13, s.1]
  have e2 : u 2 (f k) 0 = z 2 (f k) 0 := hS 2 (f k) 0 (by omega) (by omega)
  have e14 : u 14 0 0 = z 14 0 0 := hS 14 0 0 (by omega) (by omega)
  rw [ev, e2] at t p
  rw [e14] at p
  obtain ⟨t1, ⟨s1, s2, s3, s4, s5⟩, -⟩ := t
  obtain ⟨p1, p2', p3, p4⟩ := p
  have c : cE (perM u 2 (f k) 10 0 0) (perM u 2 (f k)) (sTrial u (f k)).2 := by rw [per_10]; exact s2
  have hv := vU_r z (f k) (u 15 0 0)
  have st : evN z f (k + 1).toNat = stp z (f k) (evN z f k.toNat) := by
    have := evZ_s z f hk.1
    exact this
  refine ⟨by rw [t1]; exact hv.1, by rw [t1]; exact hv.2, EXT_tr h1 s1, s4.trans h2, s5.trans h3, by rw [s3, h4]; omega, ?_, ?_, ?_, fun i i0 i1' => ⟨?_, fun z6 hj2 => ?_⟩, fun q => by omega⟩
  · rw [twU_cE c, p1, h5, st, h7]
    unfold stp
    show _ = twU z + ((evN z f k.toNat).1 + _)
    omega
  · rw [tcU_cE c, p2', h6, st, h7]; rfl
  · rw [s2 15 0 0 (by omega), p4, h6, st, h7]; rfl
  · rw [s2 5 i 0 (by omega), per2 hj.1.1 (by rw [e10]; exact hj.1.2) (by omega), if_neg (by omega), if_neg (by omega)]
    exact (h8 i i0 i1').1
  · have ne : i ≠ f k := fun c2 => hj2 k hk.1 (by omega) c2.symm
    rw [s2 6 i 0 (by omega), per2 hj.1.1 (by rw [e10]; exact hj.1.2) (by omega), if_neg (fun w => ne w.2), if_neg (by omega)]
    exact (h8 i i0 i1').2 z6 (fun j a b => hj2 j a (by omega))
/-- rows anew, places laid, read -/
theorem row_k {z r u : gX} (A : KP z r u) {R n : Int} (hR : 0 ≤ R ∧ R < 6) (hn : 0 ≤ n ∧ n ≤ 40) : (lRf u 6 R 40 R n 0).1 = n ∧ KP z (lRf u 6 R 40 R n 0).2 (lRf u 6 R 40 R n 0).2 ∧ (lRf u 6 R 40 R n 0).2 17 R 0 = n := by
  have e : lRf u 6 R 40 R n 0 = (n, xU (flM u R 0 n) 17 R 0 n) := by
    unfold lRf
    rw [if_neg (by omega), if_neg (by omega)]
  rw [e]
  refine ⟨rfl, KP_at (AT_k A.1 (fun k _ _ h1 _ _ h2 _ => by show xU (flM u R 0 n) 17 R 0 n k = u k; rw [xU_k h1, flM_k _ _ _ _ h2]) (RWI_lay (KP_I A).2.1 (by rw [if_pos hR.2]; exact hn) (by decide)) (fun t ht => ⟨?_, ?_⟩)), xU_same _ _ _ _ _⟩
  · show xU (flM u R 0 n) 17 R 0 n 17 t = _
    rw [xU_i (by omega), flM_k _ _ _ _ (by decide)]
  · show xU (flM u R 0 n) 17 R 0 n 20 t = _
    rw [xU_k (by decide)]
    funext j
    unfold flM
    rw [if_neg (by omega)]
theorem pR_in {u : gX} {R i : Int} (hR : 0 ≤ R ∧ R < 6) (hi : 0 ≤ i ∧ i < u 17 R 0) : pRf u 6 R R i = (0, u) := by
  have m : mRf u 6 R R = (0, u) := by
    unfold mRf
    rw [if_neg (fun c => c hR), if_neg (by omega)]
  unfold pRf
  rw [m, if_neg (fun c => c rfl), if_pos hi]
theorem lay_k {z r u : gX} (A : KP z r u) {R i v : Int} (hR : 0 ≤ R ∧ R < 6) (hi : 0 ≤ i ∧ i < u 17 R 0) (hv : i32 v) : (sLay u R i v).1 = 1 ∧ KP z (sLay u R i v).2 (sLay u R i v).2 ∧ (sLay u R i v).2 17 = u 17 ∧ ∀ j : Int, (sLay u R i v).2 20 R j = if j = i then v else u 20 R j := by
  have e : sLay u R i v = (1, xU (xU u 19 0 0 (u 20 R i)) 20 R i v) := by
    unfold sLay
    rw [pR_in hR hi, if_neg (fun c => c rfl)]
  rw [e]
  refine ⟨rfl, KP_at (AT_k A.1 (fun k _ _ _ _ h1 h2 _ => by show xU (xU u 19 0 0 (u 20 R i)) 20 R i v k = u k; rw [xU_k h2, xU_k h1]) (RWI_at (a := xU u 19 0 0 (u 20 R i)) (KP_I A).2.1 hv (fun c => by omega)) (fun t ht => ⟨rfl, ?_⟩)), rfl, fun j => ?_⟩
  · show xU (xU u 19 0 0 (u 20 R i)) 20 R i v 20 t = _
    rw [xU_i (by omega)]; rfl
  · show xU (xU u 19 0 0 (u 20 R i)) 20 R i v 20 R j = _
    rw [xU_at]
    by_cases c : j = i
    · rw [if_pos ⟨rfl, c⟩, if_pos c]
    · rw [if_neg (fun w => c w.2), if_neg c]; rfl
theorem at_s {u : gX} {R i : Int} (hR : 0 ≤ R ∧ R < 6) (hi : 0 ≤ i ∧ i < u 17 R 0) : sAt u R i = (1, xU u 19 0 0 (u 20 R i)) := by
  unfold sAt
  rw [pR_in hR hi, if_neg (fun c => c rfl)]
theorem at_no {z r u : gX} (A : KP z r u) {R : Int} (hR : 0 ≤ R ∧ R < 6) (h : u 17 R 0 ≠ -1) : (sAt u R (u 17 R 0)).1 = -3 ∧ KP z r (sAt u R (u 17 R 0)).2 := by
  have m : mRf u 6 R R = (0, u) := by
    unfold mRf
    rw [if_neg (fun c => c hR), if_neg h]
  have p : pRf u 6 R R (u 17 R 0) = (-3, fnd u 2) := by
    unfold pRf
    rw [m, if_neg (fun c => c rfl), if_neg (by omega)]
  have e : sAt u R (u 17 R 0) = (-3, fnd u 2) := by
    unfold sAt
    rw [p, if_pos (show (-3 : Int) ≠ 0 by decide)]
  rw [e]
  exact ⟨rfl, KP_fnd A 2⟩
