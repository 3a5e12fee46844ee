/-- one court laid anew from the past of another: block d from the first n deeds of block e -/
theorem Rel_cp {z z' : gX} {y y' : gY} {d e n : Int} (hRel : Rel z y) (hd : 0 ≤ d ∧ d < 4) (he : 0 ≤ e ∧ e < 4) (hn : 0 ≤ n ∧ n ≤ z 16 e 0)
    (k1 : ∀ k : Int, k ≠ 5 → k ≠ 6 → k ≠ 7 → k ≠ 15 → k ≠ 16 → k ≠ 21 → k ≠ 22 → z' k = z k) (k16 : z' 16 d 0 = n) (k16o : ∀ b : Int, b ≠ d → z' 16 b 0 = z 16 b 0)
    (kd : ∀ j : Int, 0 ≤ j → j < n → z' 21 d j = z 21 e j ∧ z' 22 d j = z 22 e j) (ko : ∀ b : Int, b ≠ d → ∀ j : Int, z' 21 b j = z 21 b j ∧ z' 22 b j = z 22 b j)
    (m6 : z' 6 6 0 = z 6 6 0) (m7 : z' 7 6 0 = z 7 6 0) (hNOK : NOK z') (hcur : cE (z 10 0 0) z' (repM z' 0 (z' 16 0 0)))
    (y0 : y' 40 (657 * d) = n) (yS : SB (repM z e n) y' (657 * d)) (yP : ∀ j k : Int, 0 ≤ j → j < n → 0 ≤ k → k < 16 → y' 40 (657 * d + 17 + 16 * j + k) = y 40 (657 * e + 17 + 16 * j + k))
    (yo : ∀ j : Int, j < 2628 → ¬ (657 * d ≤ j ∧ j < 657 * d + 657) → y' 40 j = y 40 j) (yk' : ∀ k : Int, k ≠ 40 → y' k = y k) : Rel z' y' := by
  obtain ⟨⟨hN, hW, hD, hC, hM⟩, hST, hB, hR, hT⟩ := hRel
  have h10 := hN.2.1
  have he40 := DDI_40 hD he.1 he.2
  have c10 : z' 10 0 0 = z 10 0 0 := by rw [k1 10 (by decide) (by decide) (by decide) (by decide) (by decide) (by decide) (by decide)]
  have hcS : cS (z 10 0 0) z z' := fun k i j q c => by rw [k1 k (by omega) (by omega) (by omega) (by omega) (by omega) (by omega) (by omega)]
  have hLe := hD.2 e he.1 he.2
  have hLn : LOK z e n := fun j a b => hLe j a (by omega)
  have repd : ∀ j : Int, 0 ≤ j → j ≤ n → cE (z 10 0 0) (repM z e j) (repM z' d j) := fun j j0 j1 => repM_cE hcS rfl (LOK_DOK hLn) kd j0 j1
  have hD' : DDI z' := by
    refine ⟨⟨?_, fun b b0 b1 => ?_⟩, fun b b0 b1 => ?_⟩
    · by_cases c : d = 0
      · rw [c] at k16; rw [k16]; omega
      · rw [k16o 0 (fun q => c q.symm)]; exact hD.1.1
    · by_cases c : b = d
      · rw [c, k16]; omega
      · rw [k16o b c]; exact hD.1.2 b b0 b1
    · by_cases c : b = d
      · rw [c, k16]; exact LOK_cE hcS rfl hLn kd
      · rw [k16o b c]; exact LOK_cE hcS rfl (hD.2 b b0 b1) (fun j _ _ => ko b c j)
  have hC' : CUR z' := cE_CUR (by rw [c10]; exact hcur)
  have kk : ∀ k : Int, 17 ≤ k → k ≠ 21 → k ≠ 22 → z' k = z k := fun k k0 k1' k2 => k1 k (by omega) (by omega) (by omega) (by omega) (by omega) k1' k2
  have k89 : ∀ k : Int, k = 8 ∨ k = 9 → z' k = z k := fun k hk => k1 k (by omega) (by omega) (by omega) (by omega) (by omega) (by omega) (by omega)
  refine ⟨⟨hNOK, fun r r0 r1 => by rw [kk 17 (by decide) (by decide) (by decide), kk 20 (by decide) (by decide) (by decide)]; exact hW r r0 r1, hD', hC', ?_⟩, ?_, ?_, ?_, ?_⟩
  · unfold MSC dOK
    rw [kk 38 (by decide) (by decide) (by decide), kk 39 (by decide) (by decide) (by decide), m6, m7]
    exact hM
  · have st : ∀ k i : Int, (1 ≤ k ∧ k ≤ 4) ∨ (10 ≤ k ∧ k ≤ 14) → z' k i 0 = z k i 0 := fun k i hk => by rw [k1 k (by omega) (by omega) (by omega) (by omega) (by omega) (by omega) (by omega)]
    unfold ST
    rw [yk' 1 (by decide), yk' 2 (by decide), yk' 3 (by decide), yk' 4 (by decide), yk' 5 (by decide), yk' 41 (by decide), yk' 42 (by decide), yk' 43 (by decide), yk' 44 (by decide), st 10 0 (by decide), st 11 0 (by decide), st 12 0 (by decide), st 13 0 (by decide), st 14 0 (by decide)]
    obtain ⟨s1, s2, s3, s4, s5, s6⟩ := hST
    refine ⟨s1, s2, s3, s4, s5, fun i i0 i1 => ?_⟩
    rw [st 1 i (by decide), st 2 i (by decide), st 3 i (by decide), st 4 i (by decide)]
    exact s6 i i0 i1
  · intro b b0 b1
    by_cases c : b = d
    · rw [c]
      unfold BL
      rw [k16]
      refine ⟨y0, fun _ => ⟨fun k k0 k1 => ?_, fun j k j0 j1 k0 k1 => ?_⟩⟩
      · rw [yS k k0 k1]
        exact (sn_cE (by rw [repM_10]; exact repd n hn.1 (Int.le_refl _)) k0 k1).symm
      · rw [yP j k j0 j1 k0 k1, ((hB e he.1 he.2).2 (by omega)).2 j k j0 (by omega) k0 k1]
        exact (sn_cE (by rw [repM_10]; exact repd j j0 (by omega)) k0 k1).symm
    · have hb := hB b b0 b1
      have hbn := DDI_40 hD b0 b1
      have repb : ∀ j : Int, 0 ≤ j → j ≤ z 16 b 0 → cE (z 10 0 0) (repM z b j) (repM z' b j) := fun j j0 j1 => repM_cE hcS rfl (LOK_DOK (hD.2 b b0 b1)) (fun j _ _ => ko b c j) j0 j1
      unfold BL
      rw [k16o b c]
      refine ⟨by rw [yo _ (by omega) (by omega)]; exact hb.1, fun g => ⟨fun k k0 k1 => ?_, fun j k j0 j1 k0 k1 => ?_⟩⟩
      · rw [yo _ (by omega) (by omega), (hb.2 g).1 k k0 k1]
        exact (sn_cE (by rw [repM_10]; exact repb _ g (Int.le_refl _)) k0 k1).symm
      · rw [yo _ (by omega) (by omega), (hb.2 g).2 j k j0 j1 k0 k1]
        exact (sn_cE (by rw [repM_10]; exact repb j j0 (by omega)) k0 k1).symm
  · obtain ⟨r1, r2⟩ := hR
    unfold RWR
    rw [kk 17 (by decide) (by decide) (by decide), kk 20 (by decide) (by decide) (by decide), yk' 45 (by decide), yk' 46 (by decide), yk' 47 (by decide), yk' 48 (by decide)]
    exact ⟨r1, r2⟩
  · unfold TLR
    rw [kk 19 (by decide) (by decide) (by decide), kk 18 (by decide) (by decide) (by decide), kk 26 (by decide) (by decide) (by decide), k89 8 (Or.inl rfl), k89 9 (Or.inr rfl), yk' 6 (by decide), yk' 7 (by decide), yk' 8 (by decide), yk' 9 (by decide), yk' 49 (by decide)]
    exact hT
def unY (y : gY) (n q : Int) : gY := fun k j => if k = 40 ∧ 1 ≤ j ∧ j < 1 + q then y 40 (17 + 16 * n + (j - 1)) else y k j
theorem unY_0 (y : gY) (n : Int) : unY y n 0 = y := by funext k j; unfold unY; rw [if_neg (by omega)]
theorem unY_s (y : gY) (n : Int) {q : Int} (hq : 0 ≤ q) : yU (unY y n q) 40 (1 + q) (y 40 (17 + 16 * n + q)) = unY y n (q + 1) := by
  funext k j
  unfold yU unY
  by_cases h1 : k = 40 ∧ j = 1 + q
  · rw [if_pos h1, if_pos ⟨h1.1, by omega, by omega⟩, h1.2]; congr 1; omega
  · rw [if_neg h1]
    by_cases h2 : k = 40 ∧ 1 ≤ j ∧ j < 1 + q
    · rw [if_pos h2, if_pos ⟨h2.1, h2.2.1, by omega⟩]
    · rw [if_neg h2, if_neg (by omega)]
theorem unY_o (y : gY) (n q : Int) {j : Int} (h : ¬ (1 ≤ j ∧ j < 1 + q)) : unY y n q 40 j = y 40 j := by unfold unY; rw [if_neg (fun w => h w.2)]
theorem unY_k (y : gY) (n q : Int) {k : Int} (h : k ≠ 40) : unY y n q k = y k := by funext j; unfold unY; rw [if_neg (fun w => h w.1)]
def ccY (y : gY) (a b q : Int) : gY := fun k j => if k = 40 ∧ b ≤ j ∧ j < b + q then y 40 (a + (j - b)) else y k j
theorem ccY_0 (y : gY) (a b : Int) : ccY y a b 0 = y := by funext k j; unfold ccY; rw [if_neg (by omega)]
theorem ccY_s (y : gY) (a b : Int) {q : Int} (hq : 0 ≤ q) : yU (ccY y a b q) 40 (b + q) (y 40 (a + q)) = ccY y a b (q + 1) := by
  funext k j
  unfold yU ccY
  by_cases h1 : k = 40 ∧ j = b + q
  · rw [if_pos h1, if_pos ⟨h1.1, by omega, by omega⟩, h1.2]; congr 1; omega
  · rw [if_neg h1]
    by_cases h2 : k = 40 ∧ b ≤ j ∧ j < b + q
    · rw [if_pos h2, if_pos ⟨h2.1, h2.2.1, by omega⟩]
    · rw [if_neg h2, if_neg (by omega)]
theorem ccY_o (y : gY) (a b q : Int) {j : Int} (h : ¬ (b ≤ j ∧ j < b + q)) : ccY y a b q 40 j = y 40 j := by unfold ccY; rw [if_neg (fun w => h w.2)]
theorem ccY_i (y : gY) (a b : Int) {q j : Int} (h0 : b ≤ j) (h1 : j < b + q) : ccY y a b q 40 j = y 40 (a + (j - b)) := by unfold ccY; rw [if_pos ⟨rfl, h0, h1⟩]
theorem ccY_k (y : gY) (a b q : Int) {k : Int} (h : k ≠ 40) : ccY y a b q k = y k := by funext j; unfold ccY; rw [if_neg (fun w => h w.1)]
theorem rep6 {x : gX} (d : Int) {n : Int} (h6 : x 10 0 0 ≤ 6) (hD : DOK x d n) : ∀ j : Nat, (j : Int) ≤ n → repN x d j 6 6 0 = x 6 6 0 ∧ repN x d j 7 6 0 = x 7 6 0
  | 0, _ => by
    show rsM (xU x 15 0 0 8) (x 10 0 0) 6 6 0 = _ ∧ rsM (xU x 15 0 0 8) (x 10 0 0) 7 6 0 = _
    unfold rsM
    rw [if_neg (by omega), if_neg (by omega)]
    exact ⟨rfl, rfl⟩
  | j + 1, h => by
    have ih := rep6 d h6 hD j (by omega)
    have hw := hD (j : Int) (by omega) (by omega)
    show actM (repN x d j) (x 21 d (j : Int)) (x 22 d (j : Int)) 6 6 0 = _ ∧ actM (repN x d j) (x 21 d (j : Int)) (x 22 d (j : Int)) 7 6 0 = _
    rcases (show x 21 d (j : Int) = 0 ∨ x 21 d (j : Int) = 1 ∨ x 21 d (j : Int) = 2 ∨ (x 21 d (j : Int) ≠ 0 ∧ x 21 d (j : Int) ≠ 1 ∧ x 21 d (j : Int) ≠ 2) by omega) with c | c | c | c
    · rw [actM_w0 c, xU_k (by decide), xU_k (by decide)]; exact ih
    · rw [actM_w1 c, xU_k (by decide), xU_k (by decide)]; exact ih
    · have hh := hw.2.2 (by omega)
      rw [actM_w2 c]
      refine ⟨?_, ?_⟩
      · rw [xU_k (by decide), xU_k (by decide), xU_at, if_neg (by omega)]; exact ih.1
      · rw [xU_k (by decide), xU_at, if_neg (by omega), xU_k (by decide)]; exact ih.2
    · rw [actM_w3 c]; exact ih
theorem Rel_undo {z : gX} {y y' : gY} {n : Int} (hRel : Rel z y) (hn : 0 ≤ n ∧ n ≤ z 16 0 0) (e : ∀ j : Int, y' 40 j = if j = 0 then n else unY y n (if 0 < z 16 0 0 - n then 16 else 0) 40 j) (ek : ∀ k : Int, k ≠ 40 → y' k = y k) : Rel (repM (xU z 16 0 0 n) 0 n) y' := by
  have hBl := (hRel.2.2.1 0 (by decide) (by decide)).2 hRel.1.2.2.1.1.1.1
  have hSB := Rel_SB hRel
  have hCc := (CUR_cE hRel.1.2.2.2.1).2
  have h10 := hRel.1.1.2.1
  have h40 := hRel.1.2.2.1.1.1
  have hLe := hRel.1.2.2.1.2 0 (by decide) (by decide)
  have hLn : LOK z 0 n := fun j a b => hLe j a (by omega)
  have hLx : DOK (xU z 16 0 0 n) 0 n := (show DOK z 0 n from LOK_DOK hLn)
  have k21 : ∀ k : Int, k = 21 ∨ k = 22 → repM (xU z 16 0 0 n) 0 n k = z k := fun k hk => by rw [repM_k (by omega) (by omega) (by omega) (by omega), xU_k (by omega)]
  have hN' := (repM_NOK (x := xU z 16 0 0 n) hRel.1.1 (by omega) hLx hn.1 (Int.le_refl _)).1
  have e16 : repM (xU z 16 0 0 n) 0 n 16 0 0 = n := by rw [repM_k (by decide) (by decide) (by decide) (by decide), xU_same]
  have hcS : cS (z 10 0 0) (xU z 16 0 0 n) (repM (xU z 16 0 0 n) 0 n) := fun k i j q c => by rw [repM_k (by omega) (by omega) (by omega) (by omega)]
  refine Rel_cp (d := 0) (e := 0) hRel (by decide) (by decide) hn (fun k h5 h6 h7 h15 h16 _ _ => by rw [repM_k h5 h6 h7 h15, xU_k h16]) e16 (fun b hb => by rw [repM_k (by decide) (by decide) (by decide) (by decide), xU_at, if_neg (by omega)]) (fun j _ _ => by rw [k21 21 (Or.inl rfl), k21 22 (Or.inr rfl)]; exact ⟨rfl, rfl⟩) (fun b _ j => by rw [k21 21 (Or.inl rfl), k21 22 (Or.inr rfl)]; exact ⟨rfl, rfl⟩) (rep6 0 (x := xU z 16 0 0 n) h10.2 hLx n.toNat (by omega)).1 (rep6 0 (x := xU z 16 0 0 n) h10.2 hLx n.toNat (by omega)).2 hN' ?_ ?_ ?_ ?_ ?_ ek
  · rw [e16]
    exact repM_cE (a := xU z 16 0 0 n) hcS rfl hLx (fun j _ _ => by rw [k21 21 (Or.inl rfl), k21 22 (Or.inr rfl)]; exact ⟨rfl, rfl⟩) hn.1 (Int.le_refl _)
  · rw [e, if_pos (by decide)]
  · intro k k0 k1
    rw [e, if_neg (by omega), show (657 : Int) * 0 + 1 + k = 1 + k by omega]
    by_cases c : 0 < z 16 0 0 - n
    · rw [if_pos c]
      unfold unY
      rw [if_pos ⟨rfl, by omega, by omega⟩, show 17 + 16 * n + (1 + k - 1) = 657 * 0 + 17 + 16 * n + k by omega]
      exact hBl.2 n k hn.1 (by omega) k0 k1
    · rw [if_neg c, unY_0, show (1 : Int) + k = 0 + 1 + k by omega, hSB k k0 k1]
      have en : n = z 16 0 0 := by omega
      rw [en]
      exact (sn_cE hCc k0 k1).symm
  · intro j k j0 j1 k0 k1
    rw [e, if_neg (by omega), unY_o y n _ (by split <;> omega)]
  · intro j _ hj
    rw [e, if_neg (by omega), unY_o y n _ (by split <;> omega)]
theorem Rel_keep {z : gX} {y y' : gY} {k : Int} (hRel : Rel z y) (hk : 0 ≤ k ∧ k < 3) (e : y' = ccY y 0 (657 * (1 + k)) 657) : Rel (xU (bcM z (1 + k) 0 (z 16 0 0)) 16 (1 + k) 0 (z 16 0 0)) y' := by
  have hBl := hRel.2.2.1 0 (by decide) (by decide)
  have hBn := hBl.2 hRel.1.2.2.1.1.1.1
  have hCc := (CUR_cE hRel.1.2.2.2.1).2
  have h10 := hRel.1.1.2.1
  have h40 := hRel.1.2.2.1.1.1
  have hLe := hRel.1.2.2.1.2 0 (by decide) (by decide)
  have k21 : ∀ b : Int, b ≠ 1 + k → ∀ j : Int, xU (bcM z (1 + k) 0 (z 16 0 0)) 16 (1 + k) 0 (z 16 0 0) 21 b j = z 21 b j ∧ xU (bcM z (1 + k) 0 (z 16 0 0)) 16 (1 + k) 0 (z 16 0 0) 22 b j = z 22 b j := fun b hb j => by
    rw [xU_k (by decide), xU_k (by decide)]
    unfold bcM
    rw [if_neg (by omega), if_neg (by omega), if_neg (by omega), if_neg (by omega)]
    exact ⟨rfl, rfl⟩
  have hcS : cS (z 10 0 0) z (xU (bcM z (1 + k) 0 (z 16 0 0)) 16 (1 + k) 0 (z 16 0 0)) := fun k i j q c => by rw [xU_k (by omega), bcM_k _ _ _ _ (by omega) (by omega)]
  have e16 : xU (bcM z (1 + k) 0 (z 16 0 0)) 16 (1 + k) 0 (z 16 0 0) 16 0 0 = z 16 0 0 := by rw [xU_at, if_neg (by omega), bcM_k _ _ _ _ (by decide) (by decide)]
  rw [e]
  refine Rel_cp (d := 1 + k) (e := 0) (n := z 16 0 0) hRel (by omega) (by decide) ⟨h40.1, Int.le_refl _⟩ (fun k h5 h6 h7 h15 h16 h21 h22 => by rw [xU_k h16, bcM_k _ _ _ _ h21 h22]) (xU_same _ _ _ _ _) (fun b hb => by rw [xU_at, if_neg (fun w => hb w.1), bcM_k _ _ _ _ (by decide) (by decide)]) (fun j j0 j1 => by rw [xU_k (by decide), xU_k (by decide)]; exact bcM_21 z j0 j1) k21 rfl rfl hRel.1.1 ?_ ?_ ?_ ?_ ?_ (fun k hk => ccY_k _ _ _ _ hk)
  · rw [e16]
    have q := repM_cE hcS rfl (LOK_DOK hLe) (fun j _ _ => k21 0 (by omega) j) h40.1 (Int.le_refl _)
    refine cE_tr ?_ (cE_tr hCc q)
    exact fun k i j q => by rw [xU_k (by omega), bcM_k _ _ _ _ (by omega) (by omega)]
  · rw [ccY_i _ _ _ (Int.le_refl _) (by omega), Int.sub_self]; exact hBl.1
  · intro q q0 q1
    rw [ccY_i _ _ _ (by omega) (by omega), show 0 + (657 * (1 + k) + 1 + q - 657 * (1 + k)) = 657 * 0 + 1 + q by omega]
    exact hBn.1 q q0 q1
  · intro j q j0 j1 q0 q1
    rw [ccY_i _ _ _ (by omega) (by omega)]; congr 1; omega
  · intro j _ hj
    exact ccY_o _ _ _ _ hj
theorem Rel_on {z : gX} {y y' : gY} {k : Int} (hRel : Rel z y) (hk : 0 ≤ k ∧ k < 3) (h0 : 0 ≤ z 16 (1 + k) 0) (e : y' = ccY y (657 * (1 + k)) 0 657) : Rel (repM (onM z k) 0 (z 16 (1 + k) 0)) y' := by
  have hBl := hRel.2.2.1 (1 + k) (by omega) (by omega)
  have hBn := hBl.2 h0
  have h10 := hRel.1.1.2.1
  have h40 := DDI_40 hRel.1.2.2.1 (d := 1 + k) (by omega) (by omega)
  have hLe := hRel.1.2.2.1.2 (1 + k) (by omega) (by omega)
  have hLx : DOK (onM z k) 0 (z 16 (1 + k) 0) := onM_DOK (LOK_DOK hLe)
  have hN' := (repM_NOK (x := onM z k) hRel.1.1 h40 hLx h0 (Int.le_refl _)).1
  have kk : ∀ k1 : Int, k1 ≠ 5 → k1 ≠ 6 → k1 ≠ 7 → k1 ≠ 15 → repM (onM z k) 0 (z 16 (1 + k) 0) k1 = onM z k k1 := fun k1 a b c d => repM_k a b c d
  have e16 : repM (onM z k) 0 (z 16 (1 + k) 0) 16 0 0 = z 16 (1 + k) 0 := by rw [kk 16 (by decide) (by decide) (by decide) (by decide), onM, xU_same]
  have hcS : cS (z 10 0 0) (onM z k) (repM (onM z k) 0 (z 16 (1 + k) 0)) := fun k1 i j q c => by rw [kk k1 (by omega) (by omega) (by omega) (by omega)]
  rw [e]
  refine Rel_cp (d := 0) (e := 1 + k) (n := z 16 (1 + k) 0) hRel (by decide) (by omega) ⟨h0, Int.le_refl _⟩ (fun k1 h5 h6 h7 h15 h16 h21 h22 => by rw [kk k1 h5 h6 h7 h15, onM, xU_k h16, bcM_k _ _ _ _ h21 h22]) e16 (fun b hb => by rw [kk 16 (by decide) (by decide) (by decide) (by decide), onM, xU_at, if_neg (fun w => hb w.1), bcM_k _ _ _ _ (by decide) (by decide)]) (fun j j0 j1 => by rw [kk 21 (by decide) (by decide) (by decide) (by decide), kk 22 (by decide) (by decide) (by decide) (by decide), onM, xU_k (by decide), xU_k (by decide)]; exact bcM_21 z j0 j1) (fun b hb j => ?_) (rep6 0 (x := onM z k) h10.2 hLx (z 16 (1 + k) 0).toNat (by omega)).1 (rep6 0 (x := onM z k) h10.2 hLx (z 16 (1 + k) 0).toNat (by omega)).2 hN' ?_ ?_ ?_ ?_ ?_ (fun k hk => ccY_k _ _ _ _ hk)
  · rw [kk 21 (by decide) (by decide) (by decide) (by decide), kk 22 (by decide) (by decide) (by decide) (by decide), onM, xU_k (by decide), xU_k (by decide)]
    unfold bcM
    rw [if_neg (by omega), if_neg (by omega), if_neg (by omega), if_neg (by omega)]
    exact ⟨rfl, rfl⟩
  · rw [e16]
    exact repM_cE (a := onM z k) hcS rfl hLx (fun j _ _ => by rw [kk 21 (by decide) (by decide) (by decide) (by decide), kk 22 (by decide) (by decide) (by decide) (by decide)]; exact ⟨rfl, rfl⟩) h0 (Int.le_refl _)
  · rw [ccY_i _ _ _ (by omega) (by omega)]
    rw [show 657 * (1 + k) + (657 * 0 - 0) = 657 * (1 + k) by omega]; exact hBl.1
  · intro q q0 q1
    rw [ccY_i _ _ _ (by omega) (by omega), show 657 * (1 + k) + (657 * 0 + 1 + q - 0) = 657 * (1 + k) + 1 + q by omega]
    exact hBn.1 q q0 q1
  · intro j q j0 j1 q0 q1
    rw [ccY_i _ _ _ (by omega) (by omega)]; congr 1; omega
  · intro j _ hj
    exact ccY_o _ _ _ _ (by omega)
set_option maxRecDepth 20000 in
theorem c_X8_undo (l : Launch) (D : gD) (ad : gA) (x : gX) (y : gY) (z : gX) (n : Int) (hn : i32 n) (hRel : Rel z y) : gC l D ad 1 yX8_undo cX8_undo 4 (some .int) [.ref (ad 8 (0)), .int (J (n))] x y (pH (.int (J ((sUndo z n).1))) (x) (fun w9 => Rel (sUndo z n).2 w9)) := by
  refine g_met RX8 rfl (by decide +kernel) [(0, .ref (ad 8 (0))), (1, .int (J (n)))] rfl (Nat.le_of_ble_eq_true rfl) (fun Θ F hR => ?_)
  have hN := hRel.1.1
  have hRW := hRel.1.2.1
  have hDD := hRel.1.2.2.1
  have hST := hRel.2.1
  have hB := Rel_SB hRel
  have h10 := hN.2.1
  have h15 := hN.2.2.1
  have hds := hDD.1.1
  have h400 : y 40 0 = z 16 0 0 := by have q := (hRel.2.2.1 0 (by decide) (by decide)).1; exact q
  refine g_iload_n F dX8_undo_0 rfl 1 rfl ?_
  refine g_i2l F dX8_undo_1 (by omega) ?_
  refine g_lconst F dX8_undo_2 0 (by decide) ?_
  refine g_aload_n F dX8_undo_3 rfl 0 rfl ?_
  refine gg_Model_row F fk_X8_7 dX8_undo_4 ?_
  refine g_iconst F dX8_undo_7 (0) (by decide) ?_
  refine ga_40 F (by decide) dX8_undo_8 ?_
  refine g_topi (b := z 16 0 0) (h400) ?_
  refine g_i2l F dX8_undo_9 (by omega) ?_
  refine g_callS 3 F (As := [.long (Lg (n)), .long (Lg (0)), .long (Lg (z 16 0 0))]) (st := []) (c_X8_in l D ad x y (n) (0) (z 16 0 0) (by omega) (by omega) (by omega)) rfl mk_X8_74 ki_X8_in kc_X8_in (by decide +kernel) rfl (by decide) dX8_undo_10 rfl (Nat.le_of_ble_eq_true rfl) (pB_k ?_)
  refine g_ifb_ne 18 F dX8_undo_13 rfl (fun c_1 => ?_) (fun c_1 => ?_)
  · skip
    refine g_aload_n F dX8_undo_18 rfl 0 rfl ?_
    refine gg_Model_row F fk_X8_7 dX8_undo_19 ?_
    refine g_iconst F dX8_undo_22 (0) (by decide) ?_
    refine ga_40 F (by decide) dX8_undo_23 ?_
    refine g_topi (b := z 16 0 0) (h400) ?_
    refine g_iload_n F dX8_undo_24 rfl 1 rfl ?_
    refine g_isub F dX8_undo_25 ?_
    refine g_istore_n F [(2, .int (J ((z 16 0 0) - (n)))), (0, .ref (ad 8 (0))), (1, .int (J (n)))] dX8_undo_26 rfl (by decide) rfl ?_
    refine g_iconst F dX8_undo_27 (0) (by decide) ?_
    refine g_istore_n F [(3, .int (J (0))), (2, .int (J ((z 16 0 0) - (n)))), (0, .ref (ad 8 (0))), (1, .int (J (n)))] dX8_undo_28 rfl (by decide) rfl ?_
    have L29 : ∀ (N : Nat) (q : Int), 0 ≤ q ∧ q ≤ 16 → 0 < z 16 0 0 - n ∨ q = 0 → (16 - q).toNat < N → gW Θ l D ad 4 29 [(0, .ref (ad 8 (0))), (1, .int (J (n))), (2, .int (J (z 16 0 0 - n))), (3, .int (J (q)))] [] x (unY y n q) := by
      intro N
      induction N with
      | zero => intro q hq hz hFu; omega
      | succ N ih29 =>
        intro q hq hz hFu
        refine g_iload_n F dX8_undo_29 rfl 3 rfl ?_
        refine g_bipush F dX8_undo_30 (16) (by decide) ?_
        refine g_icmp_ge 67 F dX8_undo_32 (by omega) (by decide) rfl (fun c_2 => ?_) (fun c_2 => ?_)
        · skip
          refine g_aload_n F dX8_undo_67 rfl 0 rfl ?_
          refine gg_Model_row F fk_X8_7 dX8_undo_68 ?_
          refine g_iconst F dX8_undo_71 (0) (by decide) ?_
          refine g_iload_n F dX8_undo_72 rfl 1 rfl ?_
          refine gs_40 F (by decide) dX8_undo_73 ?_
          refine g_iload_n F dX8_undo_74 rfl 2 rfl ?_
          exact g_ireturn F hR dX8_undo_75 (pH_z (by unfold sUndo; first | (rw [if_pos (by omega)]; done) | (rw [if_neg (by omega)]; done)) (by unfold sUndo; first | (rw [if_pos (by omega)]; exact hRel) | (rw [if_neg (by omega)]; exact Rel_undo hRel (by omega) (fun j => by by_cases c : j = 0 <;> first | (rw [c, yU_same, if_pos rfl]; done) | (rw [yU_j c, if_neg c]; first | (rw [if_pos (by omega), show q = 16 by omega]; done) | (rw [if_neg (by omega), show q = 0 by omega]; done))) (fun k hk => by rw [yU_k hk, unY_k _ _ _ hk]))) rfl)
        · skip
          refine g_iload_n F dX8_undo_35 rfl 2 rfl ?_
          refine g_if_le 67 F dX8_undo_36 (by omega) rfl (fun c_3 => ?_) (fun c_3 => ?_)
          · skip
            refine g_aload_n F dX8_undo_67 rfl 0 rfl ?_
            refine gg_Model_row F fk_X8_7 dX8_undo_68 ?_
            refine g_iconst F dX8_undo_71 (0) (by decide) ?_
            refine g_iload_n F dX8_undo_72 rfl 1 rfl ?_
            refine gs_40 F (by decide) dX8_undo_73 ?_
            refine g_iload_n F dX8_undo_74 rfl 2 rfl ?_
            exact g_ireturn F hR dX8_undo_75 (pH_z (by unfold sUndo; first | (rw [if_pos (by omega)]; done) | (rw [if_neg (by omega)]; done)) (by unfold sUndo; first | (rw [if_pos (by omega)]; exact hRel) | (rw [if_neg (by omega)]; exact Rel_undo hRel (by omega) (fun j => by by_cases c : j = 0 <;> first | (rw [c, yU_same, if_pos rfl]; done) | (rw [yU_j c, if_neg c]; first | (rw [if_pos (by omega), show q = 16 by omega]; done) | (rw [if_neg (by omega), show q = 0 by omega]; done))) (fun k hk => by rw [yU_k hk, unY_k _ _ _ hk]))) rfl)
          · skip
            refine g_aload_n F dX8_undo_39 rfl 0 rfl ?_
            refine gg_Model_row F fk_X8_7 dX8_undo_40 ?_
            refine g_iconst F dX8_undo_43 (1) (by decide) ?_
            refine g_iload_n F dX8_undo_44 rfl 3 rfl ?_
            refine g_iadd F dX8_undo_45 ?_
            refine g_aload_n F dX8_undo_46 rfl 0 rfl ?_
            refine gg_Model_row F fk_X8_7 dX8_undo_47 ?_
            refine g_bipush F dX8_undo_50 (17) (by decide) ?_
            refine g_bipush F dX8_undo_52 (16) (by decide) ?_
            refine g_iload_n F dX8_undo_54 rfl 1 rfl ?_
            refine g_imul F dX8_undo_55 ?_
            refine g_iadd F dX8_undo_56 ?_
            refine g_iload_n F dX8_undo_57 rfl 3 rfl ?_
            refine g_iadd F dX8_undo_58 ?_
            refine ga_40 F (by omega) dX8_undo_59 ?_
            refine g_topi (b := y 40 (17 + 16 * n + q)) (unY_o _ _ _ (by omega)) ?_
            refine gs_40 F (by omega) dX8_undo_60 ?_
            refine g_iinc F [(3, .int (J (q + 1))), (0, .ref (ad 8 (0))), (1, .int (J (n))), (2, .int (J (z 16 0 0 - n)))] 3 rfl dX8_undo_61 (by decide) rfl ?_
            refine g_goto F 29 dX8_undo_64 rfl ?_
            refine g_sub [1, 2, 3, 0] (lv' := [(0, .ref (ad 8 (0))), (1, .int (J (n))), (2, .int (J (z 16 0 0 - n))), (3, .int (J (q + 1)))]) rfl ?_
            exact gW_eq (ih29 (q + 1) (by omega) (by omega) (by omega)) rfl rfl rfl (rfl) (unY_s _ _ (by omega))
    refine g_sub [2, 3, 1, 0] (lv' := [(0, .ref (ad 8 (0))), (1, .int (J (n))), (2, .int (J ((z 16 0 0) - (n)))), (3, .int (J (0)))]) rfl ?_
    exact gW_eq (L29 _ (0) (by omega) (by omega) (Nat.lt_succ_self _)) rfl rfl rfl (rfl) ((unY_0 _ _).symm)
  · skip
    refine g_iconst F dX8_undo_16 (-1) (by decide) ?_
    exact g_ireturn F hR dX8_undo_17 (pH_z (by unfold sUndo; first | (rw [if_pos (by omega)]; done) | (rw [if_neg (by omega)]; done)) (by unfold sUndo; first | (rw [if_pos (by omega)]; exact hRel) | (rw [if_neg (by omega)]; exact Rel_undo hRel (by omega) (fun j => by by_cases c : j = 0 <;> first | (rw [c, yU_same, if_pos rfl]; done) | (rw [yU_j c, if_neg c]; first | (rw [if_pos (by omega), show q = 16 by omega]; done) | (rw [if_neg (by omega), show q = 0 by omega]; done))) (fun k hk => by rw [yU_k hk, unY_k _ _ _ hk]))) rfl)

set_option maxRecDepth 20000 in
theorem c_X8_copyCourt (l : Launch) (D : gD) (ad : gA) (x : gX) (y : gY) (a b : Int) (ha : 0 ≤ a ∧ a ≤ 1971) (hb : 0 ≤ b ∧ b ≤ 1971) (hd : a + 657 ≤ b ∨ b + 657 ≤ a) : gC l D ad 0 yX8_copyCourt cX8_copyCourt 4 none [.ref (ad 8 (0)), .int (J (a)), .int (J (b))] x y (pV (x) (ccY y a b 657)) := by
  refine g_met RX8 rfl (by decide +kernel) [(0, .ref (ad 8 (0))), (1, .int (J (a))), (2, .int (J (b)))] rfl (Nat.le_of_ble_eq_true rfl) (fun Θ F hR => ?_)
  refine g_iconst F dX8_copyCourt_0 (0) (by decide) ?_
  refine g_istore_n F [(3, .int (J (0))), (0, .ref (ad 8 (0))), (1, .int (J (a))), (2, .int (J (b)))] dX8_copyCourt_1 rfl (by decide) rfl ?_
  have L2 : ∀ (N : Nat) (q : Int), 0 ≤ q ∧ q ≤ 657 → (657 - q).toNat < N → gW Θ l D ad 4 2 [(0, .ref (ad 8 (0))), (1, .int (J (a))), (2, .int (J (b))), (3, .int (J (q)))] [] x (ccY y a b q) := by
    intro N
    induction N with
    | zero => intro q hq hFu; omega
    | succ N ih2 =>
      intro q hq hFu
      refine g_iload_n F dX8_copyCourt_2 rfl 3 rfl ?_
      refine g_sipush F dX8_copyCourt_3 (657) (by decide) ?_
      refine g_icmp_ge 31 F dX8_copyCourt_6 (by omega) (by decide) rfl (fun c_1 => ?_) (fun c_1 => ?_)
      · skip
        exact g_vreturn F hR dX8_copyCourt_31 (pV_i rfl (by rw [show q = 657 by omega]))
      · skip
        refine g_aload_n F dX8_copyCourt_9 rfl 0 rfl ?_
        refine gg_Model_row F fk_X8_7 dX8_copyCourt_10 ?_
        refine g_iload_n F dX8_copyCourt_13 rfl 2 rfl ?_
        refine g_iload_n F dX8_copyCourt_14 rfl 3 rfl ?_
        refine g_iadd F dX8_copyCourt_15 ?_
        refine g_aload_n F dX8_copyCourt_16 rfl 0 rfl ?_
        refine gg_Model_row F fk_X8_7 dX8_copyCourt_17 ?_
        refine g_iload_n F dX8_copyCourt_20 rfl 1 rfl ?_
        refine g_iload_n F dX8_copyCourt_21 rfl 3 rfl ?_
        refine g_iadd F dX8_copyCourt_22 ?_
        refine ga_40 F (by omega) dX8_copyCourt_23 ?_
        refine g_topi (b := y 40 (a + q)) (ccY_o _ _ _ _ (by omega)) ?_
        refine gs_40 F (by omega) dX8_copyCourt_24 ?_
        refine g_iinc F [(3, .int (J (q + 1))), (0, .ref (ad 8 (0))), (1, .int (J (a))), (2, .int (J (b)))] 3 rfl dX8_copyCourt_25 (by decide) rfl ?_
        refine g_goto F 2 dX8_copyCourt_28 rfl ?_
        refine g_sub [1, 2, 3, 0] (lv' := [(0, .ref (ad 8 (0))), (1, .int (J (a))), (2, .int (J (b))), (3, .int (J (q + 1)))]) rfl ?_
        exact gW_eq (ih2 (q + 1) (by omega) (by omega)) rfl rfl rfl (rfl) (ccY_s _ _ _ (by omega))
  refine g_sub [1, 2, 3, 0] (lv' := [(0, .ref (ad 8 (0))), (1, .int (J (a))), (2, .int (J (b))), (3, .int (J (0)))]) rfl ?_
  exact gW_eq (L2 _ (0) (by omega) (Nat.lt_succ_self _)) rfl rfl rfl (rfl) ((ccY_0 _ _ _).symm)

set_option maxRecDepth 20000 in
theorem c_X8_keep (l : Launch) (D : gD) (ad : gA) (x : gX) (y : gY) (z : gX) (k : Int) (hk : i32 k) (hRel : Rel z y) : gC l D ad 1 yX8_keep cX8_keep 2 (some .int) [.ref (ad 8 (0)), .int (J (k))] x y (pH (.int (J ((sKeep z k).1))) (x) (fun w9 => Rel (sKeep z k).2 w9)) := by
  refine g_met RX8 rfl (by decide +kernel) [(0, .ref (ad 8 (0))), (1, .int (J (k)))] rfl (Nat.le_of_ble_eq_true rfl) (fun Θ F hR => ?_)
  have hN := hRel.1.1
  have hRW := hRel.1.2.1
  have hDD := hRel.1.2.2.1
  have hST := hRel.2.1
  have hB := Rel_SB hRel
  have h10 := hN.2.1
  have h15 := hN.2.2.1
  have hds := hDD.1.1
  have h400 : y 40 0 = z 16 0 0 := by have q := (hRel.2.2.1 0 (by decide) (by decide)).1; exact q
  refine g_iload_n F dX8_keep_0 rfl 1 rfl ?_
  refine g_i2l F dX8_keep_1 (by omega) ?_
  refine g_lconst F dX8_keep_2 0 (by decide) ?_
  refine g_ldc2 F ck_X8_232 dX8_keep_3 (2) (by decide) ?_
  refine g_callS 3 F (As := [.long (Lg (k)), .long (Lg (0)), .long (Lg (2))]) (st := []) (c_X8_in l D ad x y (k) (0) (2) (by omega) (by omega) (by omega)) rfl mk_X8_74 ki_X8_in kc_X8_in (by decide +kernel) rfl (by decide) dX8_keep_6 rfl (Nat.le_of_ble_eq_true rfl) (pB_k ?_)
  refine g_ifb_ne 14 F dX8_keep_9 rfl (fun c_1 => ?_) (fun c_1 => ?_)
  · skip
    refine g_aload_n F dX8_keep_14 rfl 0 rfl ?_
    refine gg_Model_men F fk_X8_157 dX8_keep_15 ?_
    refine g_topi (b := z 10 0 0) (hST.2.2.2.2.1) ?_
    refine g_if_ne 24 F dX8_keep_18 (by omega) rfl (fun c_2 => ?_) (fun c_2 => ?_)
    · skip
      refine g_aload_n F dX8_keep_24 rfl 0 rfl ?_
      refine g_iconst F dX8_keep_25 (0) (by decide) ?_
      refine g_sipush F dX8_keep_26 (657) (by decide) ?_
      refine g_iconst F dX8_keep_29 (1) (by decide) ?_
      refine g_iload_n F dX8_keep_30 rfl 1 rfl ?_
      refine g_iadd F dX8_keep_31 ?_
      refine g_imul F dX8_keep_32 ?_
      refine g_callV 2 F (As := [.int (J (0)), .int (J ((657) * ((1) + (k))))]) (st := []) (c_X8_copyCourt l D ad x y (0) ((657) * ((1) + (k))) (by decide) (by omega) (by omega)) (gR_8) rfl mk_X8_234 ki_X8_copyCourt kc_X8_copyCourt (by decide +kernel) rfl (by decide) dX8_keep_33 rfl (Nat.le_of_ble_eq_true rfl) (pV_k ?_)
      refine g_aload_n F dX8_keep_36 rfl 0 rfl ?_
      refine gg_Model_row F fk_X8_7 dX8_keep_37 ?_
      refine g_iconst F dX8_keep_40 (0) (by decide) ?_
      refine ga_40 F (by decide) dX8_keep_41 ?_
      refine g_topi (b := z 16 0 0) (by rw [ccY_o _ _ _ _ (by omega)]; exact h400) ?_
      exact g_ireturn F hR dX8_keep_42 (pH_z (by unfold sKeep; first | (rw [if_pos (by omega)]; done) | (rw [if_neg (by omega), if_pos (by omega)]; done) | (rw [if_neg (by omega), if_neg (by omega)]; done)) (by unfold sKeep; first | (rw [if_pos (by omega)]; exact hRel) | (rw [if_neg (by omega), if_pos (by omega)]; exact hRel) | (rw [if_neg (by omega), if_neg (by omega)]; exact Rel_keep hRel (by omega) rfl)) rfl)
    · skip
      refine g_bipush F dX8_keep_21 (-4) (by decide) ?_
      exact g_ireturn F hR dX8_keep_23 (pH_z (by unfold sKeep; first | (rw [if_pos (by omega)]; done) | (rw [if_neg (by omega), if_pos (by omega)]; done) | (rw [if_neg (by omega), if_neg (by omega)]; done)) (by unfold sKeep; first | (rw [if_pos (by omega)]; exact hRel) | (rw [if_neg (by omega), if_pos (by omega)]; exact hRel) | (rw [if_neg (by omega), if_neg (by omega)]; exact Rel_keep hRel (by omega) rfl)) rfl)
  · skip
    refine g_iconst F dX8_keep_12 (-1) (by decide) ?_
    exact g_ireturn F hR dX8_keep_13 (pH_z (by unfold sKeep; first | (rw [if_pos (by omega)]; done) | (rw [if_neg (by omega), if_pos (by omega)]; done) | (rw [if_neg (by omega), if_neg (by omega)]; done)) (by unfold sKeep; first | (rw [if_pos (by omega)]; exact hRel) | (rw [if_neg (by omega), if_pos (by omega)]; exact hRel) | (rw [if_neg (by omega), if_neg (by omega)]; exact Rel_keep hRel (by omega) rfl)) rfl)

set_option maxRecDepth 20000 in
theorem c_X8_on (l : Launch) (D : gD) (ad : gA) (x : gX) (y : gY) (z : gX) (k : Int) (hk : i32 k) (hRel : Rel z y) : gC l D ad 1 yX8_on cX8_on 2 (some .int) [.ref (ad 8 (0)), .int (J (k))] x y (pH (.int (J ((sOn z k).1))) (x) (fun w9 => Rel (sOn z k).2 w9)) := by
  refine g_met RX8 rfl (by decide +kernel) [(0, .ref (ad 8 (0))), (1, .int (J (k)))] rfl (Nat.le_of_ble_eq_true rfl) (fun Θ F hR => ?_)
  have hN := hRel.1.1
  have hRW := hRel.1.2.1
  have hDD := hRel.1.2.2.1
  have hST := hRel.2.1
  have hB := Rel_SB hRel
  have h10 := hN.2.1
  have h15 := hN.2.2.1
  have hds := hDD.1.1
  have h400 : y 40 0 = z 16 0 0 := by have q := (hRel.2.2.1 0 (by decide) (by decide)).1; exact q
  refine g_iload_n F dX8_on_0 rfl 1 rfl ?_
  refine g_i2l F dX8_on_1 (by omega) ?_
  refine g_lconst F dX8_on_2 0 (by decide) ?_
  refine g_ldc2 F ck_X8_232 dX8_on_3 (2) (by decide) ?_
  refine g_callS 3 F (As := [.long (Lg (k)), .long (Lg (0)), .long (Lg (2))]) (st := []) (c_X8_in l D ad x y (k) (0) (2) (by omega) (by omega) (by omega)) rfl mk_X8_74 ki_X8_in kc_X8_in (by decide +kernel) rfl (by decide) dX8_on_6 rfl (Nat.le_of_ble_eq_true rfl) (pB_k ?_)
  refine g_ifb_ne 14 F dX8_on_9 rfl (fun c_1 => ?_) (fun c_1 => ?_)
  · skip
    have h16k := hDD.1.2 (1 + k) (by omega) (by omega)
    refine g_aload_n F dX8_on_14 rfl 0 rfl ?_
    refine gg_Model_row F fk_X8_7 dX8_on_15 ?_
    refine g_sipush F dX8_on_18 (657) (by decide) ?_
    refine g_iconst F dX8_on_21 (1) (by decide) ?_
    refine g_iload_n F dX8_on_22 rfl 1 rfl ?_
    refine g_iadd F dX8_on_23 ?_
    refine g_imul F dX8_on_24 ?_
    refine g_iconst F dX8_on_25 (0) (by decide) ?_
    refine g_iadd F dX8_on_26 ?_
    refine ga_40 F (by omega) dX8_on_27 ?_
    refine g_topi (b := z 16 (1 + k) 0) (by rw [Int.add_zero]; exact (hRel.2.2.1 (1 + k) (by omega) (by omega)).1) ?_
    refine g_if_ge 37 F dX8_on_28 (by omega) rfl (fun c_2 => ?_) (fun c_2 => ?_)
    · skip
      refine g_aload_n F dX8_on_37 rfl 0 rfl ?_
      refine g_sipush F dX8_on_38 (657) (by decide) ?_
      refine g_iconst F dX8_on_41 (1) (by decide) ?_
      refine g_iload_n F dX8_on_42 rfl 1 rfl ?_
      refine g_iadd F dX8_on_43 ?_
      refine g_imul F dX8_on_44 ?_
      refine g_iconst F dX8_on_45 (0) (by decide) ?_
      refine g_callV 2 F (As := [.int (J ((657) * ((1) + (k)))), .int (J (0))]) (st := []) (c_X8_copyCourt l D ad x y ((657) * ((1) + (k))) (0) (by omega) (by decide) (by omega)) (gR_8) rfl mk_X8_234 ki_X8_copyCourt kc_X8_copyCourt (by decide +kernel) rfl (by decide) dX8_on_46 rfl (Nat.le_of_ble_eq_true rfl) (pV_k ?_)
      refine g_aload_n F dX8_on_49 rfl 0 rfl ?_
      refine gg_Model_row F fk_X8_7 dX8_on_50 ?_
      refine g_iconst F dX8_on_53 (0) (by decide) ?_
      refine ga_40 F (by decide) dX8_on_54 ?_
      refine g_topi (b := z 16 (1 + k) 0) (by rw [ccY_i _ _ _ (by omega) (by omega)]; rw [show 657 * (1 + k) + ((0 : Int) - 0) = 657 * (1 + k) by omega]; exact (hRel.2.2.1 (1 + k) (by omega) (by omega)).1) ?_
      exact g_ireturn F hR dX8_on_55 (pH_z (by unfold sOn; first | (rw [if_pos (by omega)]; done) | (rw [if_neg (by omega), if_pos (by omega)]; done) | (rw [if_neg (by omega), if_neg (by omega)]; done)) (by unfold sOn; first | (rw [if_pos (by omega)]; exact hRel) | (rw [if_neg (by omega), if_pos (by omega)]; exact Rel_find hRel (by decide)) | (rw [if_neg (by omega), if_neg (by omega)]; exact Rel_on hRel (by omega) (by omega) rfl)) rfl)
    · skip
      refine g_aload_n F dX8_on_31 rfl 0 rfl ?_
      refine g_iconst F dX8_on_32 (1) (by decide) ?_
      refine g_callV 1 F (As := [.int (J (1))]) (st := []) (c_X8_find l D ad x y (1) (by omega)) (gR_8) rfl mk_X8_84 ki_X8_find kc_X8_find (by decide +kernel) rfl (by decide) dX8_on_33 rfl (Nat.le_of_ble_eq_true rfl) (pI_k ?_)
      exact g_ireturn F hR dX8_on_36 (pH_z (by unfold sOn; first | (rw [if_pos (by omega)]; done) | (rw [if_neg (by omega), if_pos (by omega)]; done) | (rw [if_neg (by omega), if_neg (by omega)]; done)) (by unfold sOn; first | (rw [if_pos (by omega)]; exact hRel) | (rw [if_neg (by omega), if_pos (by omega)]; exact Rel_find hRel (by decide)) | (rw [if_neg (by omega), if_neg (by omega)]; exact Rel_on hRel (by omega) (by omega) rfl)) rfl)
  · skip
    refine g_iconst F dX8_on_12 (-1) (by decide) ?_
    exact g_ireturn F hR dX8_on_13 (pH_z (by unfold sOn; first | (rw [if_pos (by omega)]; done) | (rw [if_neg (by omega), if_pos (by omega)]; done) | (rw [if_neg (by omega), if_neg (by omega)]; done)) (by unfold sOn; first | (rw [if_pos (by omega)]; exact hRel) | (rw [if_neg (by omega), if_pos (by omega)]; exact Rel_find hRel (by decide)) | (rw [if_neg (by omega), if_neg (by omega)]; exact Rel_on hRel (by omega) (by omega) rfl)) rfl)
