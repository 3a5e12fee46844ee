theorem sCourt_a {x : gX} {t : Int} (h : ¬ (0 ≤ t ∧ t < 4)) : sCourt x t = (-1, x) := by unfold sCourt; rw [mRf_a h]; rfl
theorem sCourt_b {x : gX} {t : Int} (h : 0 ≤ t ∧ t < 4) (h2 : x 17 (6 + t) 0 = -1) : sCourt x t = (-3, fnd x 1) := by unfold sCourt; rw [mRf_b h h2]; rfl
theorem sCourt_c {x : gX} {t : Int} (h : 0 ≤ t ∧ t < 4) (h2 : x 17 (6 + t) 0 ≠ -1) (h3 : rdF (x 20 (6 + t)) (x 17 (6 + t) 0) ≠ -9) : sCourt x t = (-4, x) := by
  unfold sCourt; rw [mRf_c h h2]
  show (if (0 : Int) ≠ 0 then _ else _) = _
  rw [if_neg (by decide), if_pos h3]
theorem sCourt_d {x : gX} {t : Int} (h : 0 ≤ t ∧ t < 4) (h2 : x 17 (6 + t) 0 ≠ -1) (h3 : rdF (x 20 (6 + t)) (x 17 (6 + t) 0) = -9) : sCourt x t = (rcF (x 20 (6 + t)) (x 17 (6 + t) 0), couM x (6 + t)) := by
  unfold sCourt; rw [mRf_c h h2]
  show (if (0 : Int) ≠ 0 then _ else _) = _
  rw [if_neg (by decide), if_neg (fun q => q h3)]
def coH (w : gY) : gY := yU (yU (yU (yU (yU w 1 0 (w 50 0)) 2 0 (w 50 1)) 3 0 (w 50 2)) 4 0 (w 50 3)) 5 0 (w 13 0)
def coY (w : gY) (m : Int) : gY := fun k j => if (41 ≤ k ∧ k ≤ 44) ∧ 0 ≤ j ∧ j < m then w 51 (4 * j + (k - 41)) else coH w k j
theorem coY_0 (w : gY) : coY w 0 = coH w := by funext k j; unfold coY; rw [if_neg (by omega)]
theorem coH_k (w : gY) {k : Int} (h : ¬ (1 ≤ k ∧ k ≤ 5)) : coH w k = w k := by
  unfold coH
  rw [yU_k (by omega), yU_k (by omega), yU_k (by omega), yU_k (by omega), yU_k (by omega)]
theorem coY_k (w : gY) (m : Int) {k : Int} (h : ¬ (41 ≤ k ∧ k ≤ 44)) : coY w m k = coH w k := by funext j; unfold coY; rw [if_neg (fun q => h q.1)]
theorem coY_51 (w : gY) (m q : Int) : coY w m 51 q = w 51 q := by rw [coY_k _ _ (by decide), coH_k _ (by decide)]
theorem coY_s (w : gY) {m : Int} (hm : 0 ≤ m) : yU (yU (yU (yU (coY w m) 41 m (w 51 (4 * m))) 42 m (w 51 (4 * m + 1))) 43 m (w 51 (4 * m + 2))) 44 m (w 51 (4 * m + 3)) = coY w (m + 1) := by
  funext k j
  unfold yU coY
  by_cases h4 : k = 44 ∧ j = m
  · obtain ⟨rfl, rfl⟩ := h4
    rw [if_pos ⟨rfl, rfl⟩, if_pos (by omega)]; rfl
  · rw [if_neg h4]
    by_cases h3 : k = 43 ∧ j = m
    · obtain ⟨rfl, rfl⟩ := h3
      rw [if_pos ⟨rfl, rfl⟩, if_pos (by omega)]; rfl
    · rw [if_neg h3]
      by_cases h2 : k = 42 ∧ j = m
      · obtain ⟨rfl, rfl⟩ := h2
        rw [if_pos ⟨rfl, rfl⟩, if_pos (by omega)]; rfl
      · rw [if_neg h2]
        by_cases h1 : k = 41 ∧ j = m
        · obtain ⟨rfl, rfl⟩ := h1
          rw [if_pos ⟨rfl, rfl⟩, if_pos (by omega), Int.sub_self, Int.add_zero]
        · rw [if_neg h1]
          by_cases h : (41 ≤ k ∧ k ≤ 44) ∧ 0 ≤ j ∧ j < m
          · rw [if_pos h, if_pos (by omega)]
          · rw [if_neg h, if_neg (by omega)]
def kkM (y : gY) (m : Int) : gY := fun k j => if k = 40 ∧ j % 657 = 0 ∧ 657 ≤ j ∧ j < 657 * m then -1 else y k j
theorem kkM_1 (y : gY) : kkM y 1 = y := by funext k j; unfold kkM; rw [if_neg (by omega)]
theorem kkM_s (y : gY) {m : Int} (hm : 1 ≤ m) : yU (kkM y m) 40 (657 * m + 0) (-1) = kkM y (m + 1) := by
  funext k j
  unfold yU kkM
  by_cases h1 : k = 40 ∧ j = 657 * m + 0
  · rw [if_pos h1, if_pos (by omega)]
  · rw [if_neg h1]
    by_cases h2 : k = 40 ∧ j % 657 = 0 ∧ 657 ≤ j ∧ j < 657 * m
    · rw [if_pos h2, if_pos (by omega)]
    · rw [if_neg h2, if_neg (by omega)]
theorem zrM_s0 (y : gY) (k0 v : Int) {m : Int} (hm : 0 ≤ m) : yU (zrM y k0 0 v m) k0 m v = zrM y k0 0 v (m + 1) := by
  have := zrM_s y k0 0 v hm
  rw [Int.zero_add] at this
  exact this
def lbY (y : gY) : gY := kkM (zrM (yU (zrM y 40 0 0 657) 40 1 8) 40 11 (-9) 6) 4
theorem lbY_k (y : gY) {k : Int} (h : k ≠ 40) : lbY y k = y k := by
  funext j
  unfold lbY kkM zrM
  rw [if_neg (fun q => h q.1), if_neg (fun q => h q.1), yU_k h, if_neg (fun q => h q.1)]
theorem lbY_at (y : gY) (j : Int) : lbY y 40 j = if j % 657 = 0 ∧ 657 ≤ j ∧ j < 2628 then -1 else if 11 ≤ j ∧ j < 17 then -9 else if j = 1 then 8 else if 0 ≤ j ∧ j < 657 then 0 else y 40 j := by
  unfold lbY kkM zrM yU
  by_cases h1 : j % 657 = 0 ∧ 657 ≤ j ∧ j < 2628
  · rw [if_pos (by omega), if_pos h1]
  · rw [if_neg (by omega), if_neg h1]
    by_cases h2 : 11 ≤ j ∧ j < 17
    · rw [if_pos (by omega), if_pos h2]
    · rw [if_neg (by omega), if_neg h2]
      by_cases h3 : j = 1
      · rw [if_pos ⟨rfl, h3⟩, if_pos h3]
      · rw [if_neg (by omega), if_neg h3]
        by_cases h4 : 0 ≤ j ∧ j < 657
        · rw [if_pos h4]
          show (if (40 : Int) = 40 ∧ 0 ≤ j ∧ j < 0 + 657 then 0 else y 40 j) = 0
          rw [if_pos (by omega)]
        · rw [if_neg h4]
          show (if (40 : Int) = 40 ∧ 0 ≤ j ∧ j < 0 + 657 then 0 else y 40 j) = y 40 j
          rw [if_neg (by omega)]
theorem couM_k (z : gX) (R : Int) {k : Int} (h : ¬ (1 ≤ k ∧ k ≤ 16)) : couM z R k = z k := by
  unfold couM ktM
  funext i j
  rw [if_neg (by omega), repM_k (by omega) (by omega) (by omega) (by omega)]
  unfold asR
  rw [xU_k (by omega)]
  unfold asN asHR
  rw [if_neg (by omega), xU_k (by omega), xU_k (by omega), xU_k (by omega), xU_k (by omega), xU_k (by omega)]
theorem couM_st (z : gX) (R : Int) {k : Int} (h : k ≠ 5 ∧ k ≠ 6 ∧ k ≠ 7 ∧ k ≠ 15 ∧ k ≠ 16) : couM z R k = asN z R k := by
  unfold couM ktM
  funext i j
  rw [if_neg (by omega), repM_k (by omega) (by omega) (by omega) (by omega)]
  unfold asR
  rw [xU_k (by omega)]
theorem couM_10 (z : gX) (R : Int) : couM z R 10 0 0 = rcF (z 20 R) (z 17 R 0) := by
  rw [couM_st z R (by decide)]
  unfold asN asHR
  rw [if_neg (by omega), xU_same]
theorem couM_567 (z : gX) (R : Int) {k i : Int} (hk : k = 5 ∨ k = 6 ∨ k = 7) (h0 : 0 ≤ i) (h1 : i < rcF (z 20 R) (z 17 R 0)) : couM z R k i 0 = if k = 6 then -9 else 0 := by
  unfold couM ktM
  rw [if_neg (by omega)]
  show rsM (xU (asR z R) 15 0 0 8) (asR z R 10 0 0) k i 0 = _
  unfold rsM
  rw [if_pos ⟨hk, h0, h1, rfl⟩]
theorem couM_15 (z : gX) (R : Int) : couM z R 15 0 0 = 8 := by
  unfold couM ktM
  rw [if_neg (by omega)]
  show rsM (xU (asR z R) 15 0 0 8) (asR z R 10 0 0) 15 0 0 = _
  rw [rsM_k (by decide) (by decide) (by decide), xU_same]
theorem couM_160 (z : gX) (R : Int) : couM z R 16 0 0 = 0 := by
  unfold couM ktM
  rw [if_neg (by omega), repM_k (by decide) (by decide) (by decide) (by decide)]
  unfold asR
  rw [xU_same]
theorem couM_16b (z : gX) (R : Int) {b : Int} (h0 : 1 ≤ b) (h1 : b < 4) : couM z R 16 b 0 = -1 := by
  unfold couM ktM
  rw [if_pos ⟨rfl, h0, by omega, rfl⟩]
theorem sum_0 {f : Int → Int} {n : Int} (h0 : 0 ≤ n) (h : ∀ i : Int, 0 ≤ i → i < n → f i = 0) : sumZ f n = 0 := by
  have := sumZ_range (f := f) (a := 0) (b := 0) h0 (fun i a b => by rw [h i a b]; exact ⟨Int.le_refl _, Int.le_refl _⟩)
  omega
theorem Rel_court {z : gX} {y w : gY} {t : Int} (hRel : Rel z y) (ht : 0 ≤ t ∧ t < 4) (hD : RDY y (z 20 (6 + t)) (z 17 (6 + t) 0) w) (h9 : rdF (z 20 (6 + t)) (z 17 (6 + t) 0) = -9) : Rel (couM z (6 + t)) (lbY (coY w (rcF (z 20 (6 + t)) (z 17 (6 + t) 0)))) := by
  obtain ⟨hy, hd⟩ := hD
  obtain ⟨e13, e50, e51⟩ := hd h9
  have hok := rd_ok h9
  have c10 := couM_10 z (6 + t)
  have hR := hok.1
  have hN : NOK (couM z (6 + t)) := by
    have a := (repM_NO0 (n := 0) (d := 0) (j := 0) (asR_NO0 h9) (by decide) (fun j h0 h1 => by omega) (Int.le_refl _) (Int.le_refl _)).1
    exact NOK_k (x := repM (asR z (6 + t)) 0 0) (fun k hk => by funext i j; unfold couM ktM; rw [if_neg (by omega)]) a
  have hS0 : ∀ b : Int, 1 ≤ b → b < 4 → couM z (6 + t) 16 b 0 = -1 := fun b h0 h1 => couM_16b z (6 + t) h0 h1
  have hD : DDI (couM z (6 + t)) := by
    refine ⟨⟨by rw [couM_160]; decide, fun b h0 h1 => by rw [hS0 b h0 h1]; decide⟩, fun b h0 h1 j j0 j1 => ?_⟩
    rcases (show b = 0 ∨ 1 ≤ b by omega) with e | e
    · rw [e, couM_160] at j1; omega
    · rw [hS0 b e h1] at j1; omega
  have hr0 : ∀ k i : Int, (k = 5 ∨ k = 6 ∨ k = 7) → 0 ≤ i → i < rcF (z 20 (6 + t)) (z 17 (6 + t) 0) → repM (couM z (6 + t)) 0 0 k i 0 = if k = 6 then -9 else 0 := fun k i hk h0 h1 => by
    show rsM (xU (couM z (6 + t)) 15 0 0 8) (couM z (6 + t) 10 0 0) k i 0 = _
    unfold rsM
    rw [if_pos ⟨hk, h0, by rw [c10]; exact h1, rfl⟩]
  have h15 : repM (couM z (6 + t)) 0 0 15 0 0 = 8 := by
    show rsM (xU (couM z (6 + t)) 15 0 0 8) (couM z (6 + t) 10 0 0) 15 0 0 = _
    rw [rsM_k (by decide) (by decide) (by decide), xU_same]
  have e10 : repM (couM z (6 + t)) 0 0 10 0 0 = rcF (z 20 (6 + t)) (z 17 (6 + t) 0) := by rw [repM_k (by decide) (by decide) (by decide) (by decide)]; exact c10
  have hC : CUR (couM z (6 + t)) := by
    unfold CUR
    rw [couM_160, couM_15, h15]
    refine ⟨rfl, fun i h0 h1 => ?_⟩
    rw [c10] at h1
    rw [couM_567 z _ (Or.inl rfl) h0 h1, couM_567 z _ (Or.inr (Or.inl rfl)) h0 h1, couM_567 z _ (Or.inr (Or.inr rfl)) h0 h1, hr0 5 i (by decide) h0 h1, hr0 6 i (by decide) h0 h1, hr0 7 i (by decide) h0 h1]
    exact ⟨rfl, rfl, rfl⟩
  obtain ⟨⟨_, hW, _, _, hM⟩, _, _, hRW, hT⟩ := hRel
  have eY : ∀ k j : Int, (6 ≤ k ∧ k ≤ 9) ∨ (45 ≤ k ∧ k ≤ 49) → lbY (coY w (rcF (z 20 (6 + t)) (z 17 (6 + t) 0))) k j = y k j := fun k j c => by
    rw [lbY_k _ (by omega), coY_k _ _ (by omega), coH_k _ (by omega)]
    exact hy k j (by omega)
  refine ⟨⟨hN, fun r r0 r1 => ?_, hD, hC, ?_⟩, ?_, ?_, ?_, ?_⟩
  · rw [couM_k z (6 + t) (k := 17) (by decide), couM_k z (6 + t) (k := 20) (by decide)]; exact hW r r0 r1
  · unfold MSC dOK
    rw [couM_k z (6 + t) (k := 38) (by decide), couM_k z (6 + t) (k := 39) (by decide)]
    refine ⟨hM.1, ?_, ?_⟩
    · unfold couM ktM
      rw [if_neg (by omega)]
      show rsM (xU (asR z (6 + t)) 15 0 0 8) (asR z (6 + t) 10 0 0) 6 6 0 = -9
      unfold rsM
      have : asR z (6 + t) 10 0 0 = rcF (z 20 (6 + t)) (z 17 (6 + t) 0) := rfl
      rw [if_neg (by omega), xU_k (by decide)]
      unfold asR
      rw [xU_k (by decide)]
      unfold asN asHR
      rw [if_neg (by omega), xU_k (by decide), xU_k (by decide), xU_k (by decide), xU_k (by decide), xU_k (by decide)]
      exact hM.2.1
    · unfold couM ktM
      rw [if_neg (by omega)]
      show rsM (xU (asR z (6 + t)) 15 0 0 8) (asR z (6 + t) 10 0 0) 7 6 0 = 0
      unfold rsM
      have : asR z (6 + t) 10 0 0 = rcF (z 20 (6 + t)) (z 17 (6 + t) 0) := rfl
      rw [if_neg (by omega), xU_k (by decide)]
      unfold asR
      rw [xU_k (by decide)]
      unfold asN asHR
      rw [if_neg (by omega), xU_k (by decide), xU_k (by decide), xU_k (by decide), xU_k (by decide), xU_k (by decide)]
      exact hM.2.2
  · have eC : ∀ k : Int, 1 ≤ k → k ≤ 5 → lbY (coY w (rcF (z 20 (6 + t)) (z 17 (6 + t) 0))) k 0 = coH w k 0 := fun k h0 h1 => by rw [lbY_k _ (by omega), coY_k _ _ (by omega)]
    unfold ST
    rw [eC 1 (by decide) (by decide), eC 2 (by decide) (by decide), eC 3 (by decide) (by decide), eC 4 (by decide) (by decide), eC 5 (by decide) (by decide), c10, couM_st z _ (k := 11) (by decide), couM_st z _ (k := 12) (by decide), couM_st z _ (k := 13) (by decide), couM_st z _ (k := 14) (by decide)]
    refine ⟨e50 0 (by decide) (by decide), e50 1 (by decide) (by decide), e50 2 (by decide) (by decide), e50 3 (by decide) (by decide), e13, fun i h0 h1 => ?_⟩
    have q : ∀ k : Int, 1 ≤ k → k ≤ 4 → lbY (coY w (rcF (z 20 (6 + t)) (z 17 (6 + t) 0))) (40 + k) i = couM z (6 + t) k i 0 := fun k k0 k1 => by
      rw [lbY_k _ (by omega), couM_st z _ (by omega)]
      unfold coY asN
      rw [if_pos (by omega), if_pos (by omega), e51 _ (by omega) (by omega)]
      congr 1; omega
    exact ⟨q 1 (by decide) (by decide), q 2 (by decide) (by decide), q 3 (by decide) (by decide), q 4 (by decide) (by decide)⟩
  · intro b b0 b1
    unfold BL
    rw [lbY_at]
    rcases (show b = 0 ∨ 1 ≤ b by omega) with e | e
    · subst e
      rw [couM_160]
      refine ⟨by rw [if_neg (by omega), if_neg (by omega), if_neg (by omega), if_pos (by omega)], fun _ => ⟨fun k k0 k1 => ?_, fun j k j0 j1 => by omega⟩⟩
      have a1 : trU (repM (couM z (6 + t)) 0 0) = 0 := sum_0 (by omega) (fun i h0 h1 => by rw [if_neg (fun c => c (hr0 6 i (by decide) h0 (by omega)))])
      have a2 : tcU (repM (couM z (6 + t)) 0 0) = 0 := sum_0 (by omega) (fun i h0 h1 => by rw [hr0 6 i (by decide) h0 (by omega)]; rfl)
      have a3 : twU (repM (couM z (6 + t)) 0 0) = 0 := sum_0 (by omega) (fun i h0 h1 => by rw [hr0 7 i (by decide) h0 (by omega)]; rfl)
      unfold sn
      rw [lbY_at, h15, a1, a2, a3, e10, if_neg (by omega)]
      rcases (show k = 0 ∨ (1 ≤ k ∧ k ≤ 3) ∨ (4 ≤ k ∧ k < 10) ∨ 10 ≤ k by omega) with c | c | c | c
      · rw [if_neg (by omega), if_pos (by omega), if_pos c]
      · rw [if_neg (by omega), if_neg (by omega), if_pos (by omega), if_neg (by omega)]; (repeat' split) <;> first | rfl | omega
      · rw [if_neg (by omega), if_neg (by omega), if_pos (by omega), if_neg (by omega), if_neg (by omega), if_neg (by omega), if_neg (by omega), if_pos (by omega)]
        split
        · rename_i g; rw [hr0 5 (k - 4) (by decide) (by omega) (by omega)]; rfl
        · rfl
      · rw [if_pos (by omega), if_neg (by omega), if_neg (by omega), if_neg (by omega), if_neg (by omega), if_neg (by omega)]
        split
        · rename_i g; rw [hr0 6 (k - 10) (by decide) (by omega) (by omega)]; rfl
        · rfl
    · rw [hS0 b e b1, if_pos (by omega)]
      exact ⟨rfl, fun h => by omega⟩
  · refine ⟨fun r r0 r1 => ?_, fun u u0 u1 => ?_⟩
    · rw [eY 45 r (by omega), couM_k z (6 + t) (k := 17) (by decide), couM_k z (6 + t) (k := 20) (by decide)]
      exact ⟨(hRW.1 r r0 r1).1, fun j j0 j1 => by rw [eY 46 _ (by omega)]; exact (hRW.1 r r0 r1).2 j j0 j1⟩
    · rw [eY 47 u (by omega), couM_k z (6 + t) (k := 17) (by decide), couM_k z (6 + t) (k := 20) (by decide)]
      exact ⟨(hRW.2 u u0 u1).1, fun j j0 j1 => by rw [eY 48 _ (by omega)]; exact (hRW.2 u u0 u1).2 j j0 j1⟩
  · unfold TLR
    have ek : ∀ q : Int, q ≤ 14 ∧ q ≥ 8 ∧ q < 10 → couM z (6 + t) q 0 0 = z q 0 0 := fun q hq => by
      rw [couM_st z (6 + t) (by omega)]
      unfold asN asHR
      rw [if_neg (by omega), xU_k (by omega), xU_k (by omega), xU_k (by omega), xU_k (by omega), xU_k (by omega)]
    rw [eY 6 0 (by omega), eY 7 0 (by omega), eY 8 0 (by omega), eY 9 0 (by omega), couM_k z (6 + t) (k := 19) (by decide), couM_k z (6 + t) (k := 18) (by decide), couM_k z (6 + t) (k := 26) (by decide), ek 8 (by decide), ek 9 (by decide)]
    exact ⟨hT.1, hT.2.1, hT.2.2.1, hT.2.2.2.1, fun f f0 f1 => by rw [eY 49 f (by omega)]; exact hT.2.2.2.2 f f0 f1⟩
