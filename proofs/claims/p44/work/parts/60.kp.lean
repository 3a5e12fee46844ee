/-! what calls tell of a court that is as it was -/
theorem td0 {z r u : gX} (A : KP z r u) {i : Int} (h0 : 0 ≤ i) (h1 : i < z 10 0 0) : dU u i 0 = z 1 i 0 := (dU_cE A.1.2.1 h0 h1 0).trans rfl
theorem td1 {z r u : gX} (A : KP z r u) {i : Int} (h0 : 0 ≤ i) (h1 : i < z 10 0 0) : dU u i 1 = z 2 i 0 := (dU_cE A.1.2.1 h0 h1 1).trans rfl
theorem td4 {z r u : gX} (A : KP z r u) {i : Int} (h0 : 0 ≤ i) (h1 : i < z 10 0 0) : dU u i 4 = bU z i (z 15 0 0) := (dU_cE A.1.2.1 h0 h1 4).trans rfl
theorem td5 {z r u : gX} (A : KP z r u) {i : Int} (h0 : 0 ≤ i) (h1 : i < z 10 0 0) : dU u i 5 = if cU z i (z 15 0 0) then 1 else 0 := (dU_cE A.1.2.1 h0 h1 5).trans rfl
theorem td6 {z r u : gX} (A : KP z r u) {i : Int} (h0 : 0 ≤ i) (h1 : i < z 10 0 0) : dU u i 6 = if lU z i (z 15 0 0) ≤ 0 then 1 else 0 := (dU_cE A.1.2.1 h0 h1 6).trans rfl
theorem td8 {z r u : gX} (A : KP z r u) {i : Int} (h0 : 0 ≤ i) (h1 : i < z 10 0 0) : dU u i 8 = z 6 i 0 := (dU_cE A.1.2.1 h0 h1 8).trans rfl
theorem vU_c {z : gX} {i : Int} (h : ¬ cU z i (z 15 0 0)) : (2 : Int) = vU z i (z 15 0 0) := by unfold vU; rw [if_neg h]
theorem td6v {z r u : gX} (A : KP z r u) {i : Int} (h0 : 0 ≤ i) (h1 : i < z 10 0 0) (h : cU z i (z 15 0 0)) : dU u i 6 = vU z i (z 15 0 0) := by
  rw [td6 A h0 h1]
  unfold vU
  rw [if_pos h]
  by_cases c : 0 < lU z i (z 15 0 0)
  · rw [if_neg (by omega), if_pos c]
  · rw [if_pos (by omega), if_neg c]
theorem tm_ok {z r u : gX} (A : KP z r u) {i w : Int} (h0 : 0 ≤ i) (h1 : i < z 10 0 0) (hw : 0 ≤ w ∧ w ≤ 8) : sMan u i w = (1, xU u 19 0 0 (dU u i w)) := by
  unfold sMan
  rw [if_neg]
  rintro (c | c | c)
  · exact c ⟨h0, by rw [KP_10 A]; exact h1⟩
  · omega
  · omega
theorem ct1 {z r u : gX} (A : KP z r u) : ctU u 1 = z 15 0 0 := A.1.2.1 15 0 0 (by omega)
theorem ct2 {z r u : gX} (A : KP z r u) : ctU u 2 = z 16 0 0 := A.1.2.2
theorem ct3 {z r u : gX} (A : KP z r u) : ctU u 3 = trU z := trU_cE A.1.2.1
theorem ct4 {z r u : gX} (A : KP z r u) : ctU u 4 = tcU z := tcU_cE A.1.2.1
theorem ct5 {z r u : gX} (A : KP z r u) : ctU u 5 = twU z := twU_cE A.1.2.1
theorem he_k {z r u : gX} (A : KP z r u) {i v : Int} (h0 : 0 ≤ i) (h1 : i < z 10 0 0) (hv : 0 ≤ v ∧ v < 3) : (sHeats u i v).1 = htU z i v ∧ KP z r (sHeats u i v).2 := by
  have e : sHeats u i v = (htU u i v, u) := by
    unfold sHeats
    rw [if_neg]
    rintro (c | c | c)
    · exact c ⟨h0, by rw [KP_10 A]; exact h1⟩
    · omega
    · omega
  rw [e]
  exact ⟨ht_cE A.1.2.1 h0 h1 v, A⟩
theorem cq_k {z r u : gX} (A : KP z r u) (hn : 1 ≤ z 10 0 0) : (sComesQ u).1 = cmB z ∧ KP z r (sComesQ u).2 ∧ (sComesQ u).2 19 0 0 = clB z := by
  have e : sComesQ u = (cmB u, xU u 19 0 0 (clB u)) := by
    unfold sComesQ
    rw [if_neg (by rw [KP_10 A]; omega)]
  rw [e]
  refine ⟨cm_cE A.1.2.1, KP_tell A _, ?_⟩
  show xU u 19 0 0 (clB u) 19 0 0 = _
  rw [xU_same]; exact cl_cE A.1.2.1
theorem hR0 {u : gX} {m h : Int} (hn : u 10 0 0 ≠ 0) (hh : 0 ≤ h ∧ h ≤ m) : hRf u m h = 0 := by
  unfold hRf
  rw [if_neg (by omega), if_neg hn]
theorem wr_k {z r u : gX} (A : KP z r u) (hn : 1 ≤ z 10 0 0) {h : Int} (hh : 0 ≤ h ∧ h ≤ 30) : (sWrong u h).1 = awU z h ∧ KP z r (sWrong u h).2 ∧ (sWrong u h).2 19 0 0 = gwU z h := by
  have e : sWrong u h = (awU u h, xU u 19 0 0 (gwU u h)) := by
    unfold sWrong
    rw [hR0 (by rw [KP_10 A]; omega) hh, if_neg (fun c => c rfl)]
  rw [e]
  refine ⟨aw_cE A.1.2.1 h, KP_tell A _, ?_⟩
  show xU u 19 0 0 (gwU u h) 19 0 0 = _
  rw [xU_same]; exact gw_cE A.1.2.1 h
theorem be_k {z r u : gX} (A : KP z r u) (hn : 1 ≤ z 10 0 0) : (sBest u).1 = (bsN (fun h => awU z h) 30).1 ∧ KP z r (sBest u).2 ∧ (sBest u).2 19 0 0 = (bsN (fun h => awU z h) 30).2 := by
  have ef : (fun h => awU u h) = fun h => awU z h := funext fun h => aw_cE A.1.2.1 h
  have e : sBest u = ((bsN (fun h => awU z h) 30).1, xU u 19 0 0 (bsN (fun h => awU z h) 30).2) := by
    unfold sBest
    rw [if_neg (by rw [KP_10 A]; omega), ef]
  rw [e]
  generalize bsN (fun h => awU z h) 30 = B
  exact ⟨rfl, KP_tell A _, xU_same u 19 0 0 B.2⟩
/-- fractions in lowest terms -/
theorem tf_r {u : gX} {a b : Int} (ha : 0 ≤ a ∧ a ≤ b) (hb : b ≤ 4000000) : (0 ≤ tfM u a b 8 0 0 ∧ tfM u a b 8 0 0 ≤ tfM u a b 9 0 0) ∧ tfM u a b 9 0 0 ≤ 4000000 := by
  have e8 : tfM u a b 8 0 0 = if gcZ b a = 0 then 0 else a / gcZ b a := by
    unfold tfM
    rw [xU_k (by decide), xU_same]
  have e9 : tfM u a b 9 0 0 = if gcZ b a = 0 then 1 else b / gcZ b a := by
    unfold tfM
    rw [xU_same]
  rw [e8, e9]
  have hg : 0 ≤ gcZ b a := by unfold gcZ; omega
  by_cases c : gcZ b a = 0
  · rw [if_pos c, if_pos c]; omega
  · rw [if_neg c, if_neg c]
    have h1 : 0 < gcZ b a := by omega
    refine ⟨⟨Int.ediv_nonneg ha.1 hg, Int.ediv_le_ediv h1 ha.2⟩, ?_⟩
    have := Int.ediv_le_self (gcZ b a) (show 0 ≤ b by omega)
    omega
theorem tf_1 {u : gX} {k : Int} (hk : 0 ≤ k) : tfM u (12 * k) 12 8 0 0 = k ∧ tfM u (12 * k) 12 9 0 0 = 1 := by
  have g : gcZ 12 (12 * k) = 12 := by
    obtain ⟨n, rfl⟩ : ∃ n : Nat, k = n := ⟨k.toNat, by omega⟩
    unfold gcZ
    have e : ((12 : Int) * (n : Int)).toNat = 12 * n := by omega
    rw [e, show ((12 : Int)).toNat = 12 by decide, Nat.gcd_mul_right_right]; rfl
  refine ⟨?_, ?_⟩
  · unfold tfM
    rw [xU_k (by decide), xU_same, g, if_neg (by decide)]; omega
  · unfold tfM
    rw [xU_same, g, if_neg (by decide)]; decide
theorem tf_01 {u : gX} {a b : Int} (hb : 0 < b) : (a = b → tfM u a b 8 0 0 = 1) ∧ (a = 0 → tfM u a b 8 0 0 = 0) := by
  have e8 : tfM u a b 8 0 0 = if gcZ b a = 0 then 0 else a / gcZ b a := by
    unfold tfM
    rw [xU_k (by decide), xU_same]
  refine ⟨fun c => ?_, fun c => ?_⟩
  · have g : gcZ b a = b := by
      rw [c]; unfold gcZ; rw [Nat.gcd_self]; omega
    rw [e8, g, if_neg (by omega), c]
    exact Int.ediv_self (by omega)
  · rw [e8, c]
    split
    · rfl
    · exact Int.zero_ediv _
theorem gn_r {u : gX} (hu : NOK u) (h : Int) : (0 ≤ gnU u h ∧ gnU u h ≤ cnU u h) ∧ cnU u h ≤ 6 := by
  have h10 := hu.2.1
  have hc := cntZ_r (P := fun i => u 6 i 0 = -9 ∧ vU u i h = 1) h10.1
  have key : ∀ n : Nat, (n : Int) ≤ u 10 0 0 → 0 ≤ sumN (fun i => if u 6 i 0 = -9 ∧ vU u i h = 1 then u 2 i 0 else 0) n ∧ sumN (fun i => if u 6 i 0 = -9 ∧ vU u i h = 1 then u 2 i 0 else 0) n ≤ sumN (fun i => if u 6 i 0 = -9 ∧ vU u i h = 1 then 1 else 0) n := by
    intro n
    induction n with
    | zero => intro _; exact ⟨Int.le_refl _, Int.le_refl _⟩
    | succ k ih =>
      intro hk
      have a := ih (by omega)
      have m := (hu.2.2.2 (k : Int) (by omega) (by omega)).2.1
      show 0 ≤ sumN _ k + (if u 6 (k : Int) 0 = -9 ∧ vU u (k : Int) h = 1 then u 2 (k : Int) 0 else 0) ∧ sumN _ k + (if u 6 (k : Int) 0 = -9 ∧ vU u (k : Int) h = 1 then u 2 (k : Int) 0 else 0) ≤ sumN _ k + (if u 6 (k : Int) 0 = -9 ∧ vU u (k : Int) h = 1 then 1 else 0)
      by_cases c : u 6 (k : Int) 0 = -9 ∧ vU u (k : Int) h = 1
      · rw [if_pos c, if_pos c]; omega
      · rw [if_neg c, if_neg c]; omega
  have q := key (u 10 0 0).toNat (by omega)
  exact ⟨q, by show sumZ _ _ ≤ 6; omega⟩
theorem te_k {z r u : gX} (A : KP z r u) (hn : 1 ≤ z 10 0 0) {h : Int} (hh : 0 ≤ h ∧ h ≤ 30) : (sTells u h).1 = 1 ∧ KP z r (sTells u h).2 ∧ (0 ≤ (sTells u h).2 8 0 0 ∧ (sTells u h).2 8 0 0 ≤ (sTells u h).2 9 0 0) ∧ (sTells u h).2 9 0 0 ≤ 4000000 := by
  have e : sTells u h = (1, tfM u (gnU u h) (cnU u h)) := by
    unfold sTells
    rw [hR0 (by rw [KP_10 A]; omega) hh, if_neg (fun c => c rfl)]
  have g := gn_r (KP_I A).1 h
  rw [e]
  exact ⟨rfl, KP_tf A _ _, tf_r (u := u) g.1 (by omega)⟩
/-- the first of the least -/
theorem bs_le (f : Int → Int) : ∀ (k : Nat) (q : Int), 0 ≤ q → q ≤ k → (bsN f k).2 ≤ f q
  | 0, q, h0, h1 => by rw [show q = 0 by omega]; exact Int.le_refl _
  | k + 1, q, h0, h1 => by
    show (if f ((k : Int) + 1) < (bsN f k).2 then ((k : Int) + 1, f ((k : Int) + 1)) else bsN f k).2 ≤ f q
    have ih := bs_le f k q h0
    by_cases c : f ((k : Int) + 1) < (bsN f k).2
    · rw [if_pos c]
      by_cases d : q = (k : Int) + 1
      · rw [d]; exact Int.le_refl _
      · have := ih (by omega)
        show f ((k : Int) + 1) ≤ f q
        omega
    · rw [if_neg c]
      by_cases d : q = (k : Int) + 1
      · rw [d]; omega
      · exact ih (by omega)
theorem bs_at (f : Int → Int) : ∀ k : Nat, (0 ≤ (bsN f k).1 ∧ (bsN f k).1 ≤ k) ∧ (bsN f k).2 = f (bsN f k).1 ∧ ∀ q : Int, 0 ≤ q → q < (bsN f k).1 → (bsN f k).2 < f q
  | 0 => ⟨⟨Int.le_refl _, Int.le_refl _⟩, rfl, fun q a b => by have b' : q < 0 := b; omega⟩
  | k + 1 => by
    have ih := bs_at f k
    have hl := bs_le f k
    show (0 ≤ (if f ((k : Int) + 1) < (bsN f k).2 then ((k : Int) + 1, f ((k : Int) + 1)) else bsN f k).1 ∧ (if f ((k : Int) + 1) < (bsN f k).2 then ((k : Int) + 1, f ((k : Int) + 1)) else bsN f k).1 ≤ ((k + 1 : Nat) : Int)) ∧ (if f ((k : Int) + 1) < (bsN f k).2 then ((k : Int) + 1, f ((k : Int) + 1)) else bsN f k).2 = f (if f ((k : Int) + 1) < (bsN f k).2 then ((k : Int) + 1, f ((k : Int) + 1)) else bsN f k).1 ∧ ∀ q : Int, 0 ≤ q → q < (if f ((k : Int) + 1) < (bsN f k).2 then ((k : Int) + 1, f ((k : Int) + 1)) else bsN f k).1 → (if f ((k : Int) + 1) < (bsN f k).2 then ((k : Int) + 1, f ((k : Int) + 1)) else bsN f k).2 < f q
    by_cases c : f ((k : Int) + 1) < (bsN f k).2
    · rw [if_pos c]
      refine ⟨⟨?_, ?_⟩, rfl, fun q a b => ?_⟩
      · show 0 ≤ (k : Int) + 1; omega
      · show (k : Int) + 1 ≤ ((k + 1 : Nat) : Int); omega
      · have b' : q < (k : Int) + 1 := b
        have := hl q a (by omega)
        show f ((k : Int) + 1) < f q
        omega
    · rw [if_neg c]
      exact ⟨⟨ih.1.1, by have := ih.1.2; omega⟩, ih.2⟩
theorem gw_le {u : gX} (hu : NOK u) (h : Int) : 0 ≤ gwU u h ∧ gwU u h ≤ awU u h ∧ awU u h ≤ 6 := by
  have h10 := hu.2.1
  have hc := cntZ_r (P := fun i => wW u i h) h10.1
  have hg := cntZ_r (P := fun i => u 2 i 0 = 1 ∧ wW u i h) h10.1
  have key : ∀ n : Nat, sumN (fun i => if u 2 i 0 = 1 ∧ wW u i h then 1 else 0) n ≤ sumN (fun i => if wW u i h then 1 else 0) n := by
    intro n
    induction n with
    | zero => exact Int.le_refl _
    | succ k ih =>
      show sumN _ k + (if u 2 (k : Int) 0 = 1 ∧ wW u (k : Int) h then (1 : Int) else 0) ≤ sumN _ k + (if wW u (k : Int) h then (1 : Int) else 0)
      by_cases c : wW u (k : Int) h
      · rw [if_pos c]; split <;> omega
      · rw [if_neg c, if_neg (fun d => c d.2)]; omega
  exact ⟨hg.1, key _, by show sumZ _ _ ≤ 6; omega⟩
