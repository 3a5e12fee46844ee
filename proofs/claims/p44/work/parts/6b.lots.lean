/-! lots -/
theorem wr_same {a b : gX} (e10 : b 10 0 0 = a 10 0 0) (h : ∀ q : Int, 0 ≤ q → q < a 10 0 0 → b 7 q 0 = a 7 q 0) : twU b = twU a := by
  show sumZ (fun i => if b 7 i 0 = 1 then 1 else 0) (b 10 0 0) = _
  rw [e10]
  exact sumZ_cong (fun i h0 h1 => by rw [h i h0 h1])
theorem lo_s {u : gX} {L : Int} (hu : INV u) (h16 : u 16 0 0 < 40) (h10 : u 10 0 0 ≠ 0) (hL : 0 ≤ L) : EXT u (loM u L) ∧ loM u L 17 = u 17 ∧ loM u L 20 = u 20 ∧ loM u L 16 0 0 = u 16 0 0 + 1 ∧ twU u ≤ twU (loM u L) ∧ twU (loM u L) ≤ twU u + 1 := by
  have w := wOK_lo hu.1 h10 hL
  unfold loM
  by_cases c : L % 3 = 0
  · rw [if_pos c]
    have hw := w.1 c
    have hv := hw.2.1 rfl
    refine ⟨EXT_per hu h16 hw (fun c => absurd c (by decide)) (fun c => absurd c (by decide)), (per_1720 _ _ _).1, (per_1720 _ _ _).2, perM_16 _ _ _, ?_⟩
    have t : twU (perM u 0 (L / 8 % 11 - 5)) = twU u := wr_same (per_10 _ _ _) (fun q q0 q1 => by rw [per0 hv (Or.inl ⟨by decide, q0, q1⟩), if_neg (by decide)])
    rw [t]; omega
  · rw [if_neg c]
    obtain ⟨⟨i0, i1⟩, hw⟩ := w.2 c
    generalize L / 8 % u 10 0 0 = i at i0 i1 hw ⊢
    refine ⟨EXT_per hu h16 hw (fun d => ?_) (fun d => ?_), (per_1720 _ _ _).1, (per_1720 _ _ _).2, perM_16 _ _ _, ?_⟩
    · unfold duU at d
      split at d
      · exact absurd d (by decide)
      · split at d
        · assumption
        · exact absurd d (by decide)
    · unfold duU at d
      split at d
      · assumption
      · split at d
        · exact absurd d (by decide)
        · exact absurd d (by decide)
    · unfold duU
      by_cases c6 : u 6 i 0 = -9
      · rw [if_pos c6, (per2_t i0 i1 c6 (INV_UW hu i i0 i1 c6)).1]
        split <;> omega
      · rw [if_neg c6]
        by_cases c5 : u 5 i 0 < 3
        · rw [if_pos c5]
          have t : twU (perM u 1 i) = twU u := wr_same (per_10 _ _ _) (fun q q0 q1 => by rw [per1 i0 i1 (Or.inl ⟨by decide, q0, q1⟩), if_neg (by omega)])
          rw [t]; omega
        · rw [if_neg c5]
          have hw3 : wOK u 3 i := ⟨by decide, fun d => absurd d (by decide), fun d => by omega⟩
          have t : twU (perM u 3 i) = twU u := wr_same (per_10 _ _ _) (fun q q0 q1 => by rw [perM_cE hw3 7 q 0 (by omega), actM_w3 (by decide)])
          rw [t]; omega
theorem lo_3 {u : gX} {s : Int} (hu : INV u) (h16 : u 16 0 0 ≤ 37) (h10 : u 10 0 0 ≠ 0) (hs : 1 ≤ s ∧ s ≤ 2147483646) : ∀ k : Nat, k ≤ 3 → EXT u (loN u s k) ∧ loN u s k 17 = u 17 ∧ loN u s k 20 = u 20 ∧ loN u s k 16 0 0 = u 16 0 0 + k ∧ twU u ≤ twU (loN u s k) ∧ twU (loN u s k) ≤ twU u + k
  | 0, _ => ⟨EXT_rf hu, rfl, rfl, (by show u 16 0 0 = u 16 0 0 + ((0 : Nat) : Int); omega), Int.le_refl _, (by show twU u ≤ twU u + ((0 : Nat) : Int); omega)⟩
  | k + 1, hk => by
    obtain ⟨a1, a2, a3, a4, a5, a6⟩ := lo_3 hu h16 h10 hs k (by omega)
    have e10 := EXT_10 a1
    have r := ltN_r (s := s) ⟨by omega, by omega⟩ (k + 1)
    obtain ⟨b1, b2, b3, b4, b5, b6⟩ := lo_s (u := loN u s k) (L := ltN s (k + 1)) a1.1 (by omega) (by omega) r.1
    show EXT u (loM (loN u s k) (ltN s (k + 1))) ∧ loM (loN u s k) (ltN s (k + 1)) 17 = u 17 ∧ loM (loN u s k) (ltN s (k + 1)) 20 = u 20 ∧ loM (loN u s k) (ltN s (k + 1)) 16 0 0 = u 16 0 0 + ((k + 1 : Nat) : Int) ∧ twU u ≤ twU (loM (loN u s k) (ltN s (k + 1))) ∧ twU (loM (loN u s k) (ltN s (k + 1))) ≤ twU u + ((k + 1 : Nat) : Int)
    exact ⟨EXT_tr a1 b1, b2.trans a2, b3.trans a3, by omega, by omega, by omega⟩
def LK (z r : gX) (d : Int) (v : gX) : Prop := EXT z v ∧ v 17 = r 17 ∧ v 20 = r 20 ∧ v 16 0 0 = z 16 0 0 + 3 ∧ twU v = twU z + d
theorem lots_k {z r u : gX} (A : KP z r u) (h16 : z 16 0 0 ≤ 37) (hn : 1 ≤ z 10 0 0) {s : Int} (hs : 1 ≤ s ∧ s ≤ 2147483646) : (0 ≤ (sLots u 3 s).1 ∧ (sLots u 3 s).1 ≤ 3) ∧ LK z r (sLots u 3 s).1 (sLots u 3 s).2 := by
  have hu := KP_I A
  have e10 := KP_10 A
  have e : sLots u 3 s = (twU (loN u s 3) - twU u, loN u s 3) := by
    unfold sLots
    rw [if_neg (by omega), if_neg (by omega), if_neg (by have := A.1.2.2; omega)]; rfl
  obtain ⟨a1, a2, a3, a4, a5, a6⟩ := lo_3 hu (by have := A.1.2.2; omega) (by omega) hs 3 (by decide)
  have t : twU u = twU z := twU_cE A.1.2.1
  rw [e]
  refine ⟨⟨?_, ?_⟩, EXT_tr A.1.1 a1, a2.trans A.2.1, a3.trans A.2.2, ?_, ?_⟩
  · show 0 ≤ twU (loN u s 3) - twU u
    omega
  · show twU (loN u s 3) - twU u ≤ 3
    omega
  · show loN u s 3 16 0 0 = _
    rw [a4, A.1.2.2]; rfl
  · show twU (loN u s 3) = twU z + (twU (loN u s 3) - twU u)
    omega
