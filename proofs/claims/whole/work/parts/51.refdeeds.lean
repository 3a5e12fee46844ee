def kpM (y : gY) (n q : Int) : gY := fun k j => if k = 40 ∧ 17 + 16 * n ≤ j ∧ j < 17 + 16 * n + q then y 40 (1 + (j - (17 + 16 * n))) else y k j
theorem kpM_0 (y : gY) (n : Int) : kpM y n 0 = y := by funext k j; unfold kpM; rw [if_neg (by omega)]
theorem kpM_s (y : gY) (n : Int) {q : Int} (hq : 0 ≤ q) : yU (kpM y n q) 40 (17 + 16 * n + q) (y 40 (1 + q)) = kpM y n (q + 1) := by
  funext k j
  unfold yU kpM
  by_cases h1 : k = 40 ∧ j = 17 + 16 * n + q
  · rw [if_pos h1, if_pos ⟨h1.1, by omega, by omega⟩, h1.2]; congr 1; omega
  · rw [if_neg h1]
    by_cases h2 : k = 40 ∧ 17 + 16 * n ≤ j ∧ j < 17 + 16 * n + q
    · rw [if_pos h2, if_pos ⟨h2.1, h2.2.1, by omega⟩]
    · rw [if_neg h2, if_neg (by omega)]
def kpY (y : gY) (n : Int) : gY := yU (kpM y n 16) 40 0 (n + 1)
theorem kp_k (y : gY) (n : Int) {k : Int} (h : k ≠ 40) : kpY y n k = y k := by
  unfold kpY
  rw [yU_k h]
  funext j; unfold kpM; rw [if_neg (fun q => h q.1)]
theorem kp_h (y : gY) {n j : Int} (hn : 0 ≤ n) (h0 : 1 ≤ j) (h1 : j < 17) : kpY y n 40 j = y 40 j := by
  unfold kpY
  rw [yU_j (by omega)]
  unfold kpM
  rw [if_neg (by omega)]
theorem kp_0 (y : gY) (n : Int) : kpY y n 40 0 = n + 1 := yU_same _ _ _ _
theorem kp_p (y : gY) {n k : Int} (hn : 0 ≤ n) (h0 : 0 ≤ k) (h1 : k < 16) : kpY y n 40 (17 + 16 * n + k) = y 40 (1 + k) := by
  unfold kpY
  rw [yU_j (by omega)]
  unfold kpM
  rw [if_pos ⟨rfl, by omega, by omega⟩]
  congr 1; omega
theorem kp_o (y : gY) {n j : Int} (h0 : j ≠ 0) (h : ¬ (17 + 16 * n ≤ j ∧ j < 17 + 16 * n + 16)) : kpY y n 40 j = y 40 j := by
  unfold kpY
  rw [yU_j h0]
  unfold kpM
  rw [if_neg (by omega)]
theorem kp_SB {z : gX} {y : gY} {n : Int} (hn : 0 ≤ n) (h : SB z y 0) : SB z (kpY y n) 0 := fun k k0 k1 => by rw [kp_h y hn (by omega) (by omega)]; exact h k k0 k1
theorem kp_ST {z : gX} {y : gY} {n : Int} (h : ST z y) : ST z (kpY y n) := by
  unfold ST
  rw [kp_k y n (k := 1) (by decide), kp_k y n (k := 2) (by decide), kp_k y n (k := 3) (by decide), kp_k y n (k := 4) (by decide), kp_k y n (k := 5) (by decide), kp_k y n (k := 41) (by decide), kp_k y n (k := 42) (by decide), kp_k y n (k := 43) (by decide), kp_k y n (k := 44) (by decide)]
  exact h
theorem perM_SB {z : gX} {y2 : gY} {w h : Int} (hw : wOK z w h) (hS : SB (actM z w h) y2 0) : SB (perM z w h) y2 0 := fun k k0 k1 => by
  have e10 : actM z w h 10 0 0 = z 10 0 0 := by rw [actM_k (by decide) (by decide) (by decide) (by decide)]
  rw [hS k k0 k1]
  exact (sn_cE (by rw [e10]; exact perM_cE hw) k0 k1).symm
theorem Rel_kp {z : gX} {y y2 : gY} {w h : Int} (hRel : Rel z y) (hn : z 16 0 0 < 40) (hw : wOK z w h) (hs : w = 1 → z 5 h 0 < 3) (ht : w = 2 → z 6 h 0 = -9) (eS : SB (actM z w h) y2 0)
    (eo : ∀ j : Int, ¬ (1 ≤ j ∧ j < 17) → y2 40 j = kpY y (z 16 0 0) 40 j) (ek : ∀ k : Int, k ≠ 40 → y2 k = y k) : Rel (perM z w h) y2 := by
  have hn0 := hRel.1.2.2.1.1.1.1
  exact Rel_per hRel hn hw hs ht (by rw [eo 0 (by omega), kp_0]) (fun k k0 k1 => by rw [eo _ (by omega)]; exact kp_p y hn0 k0 k1) (perM_SB hw eS) (fun j j0 j1 c => by rw [eo j (by omega)]; exact kp_o y (by omega) c) ek
theorem sn_15 (z : gX) (v : Int) {k : Int} (hk : k ≠ 0) : sn (xU z 15 0 0 v) k = sn z k := by
  unfold sn
  rw [if_neg hk, if_neg hk]; rfl
theorem sn_5 (z : gX) {i v k : Int} (h0 : 0 ≤ i) (hk : k ≠ 4 + i) : sn (xU z 5 i 0 v) k = sn z k := by
  unfold sn
  refine ite_congr rfl (fun _ => rfl) (fun c1 => ite_congr rfl (fun _ => rfl) (fun c2 => ite_congr rfl (fun _ => rfl) (fun c3 => ite_congr rfl (fun _ => rfl) (fun c4 => ite_congr rfl (fun c5 => ite_congr rfl (fun q => ?_) (fun _ => rfl)) (fun c5 => rfl)))))
  rw [xU_at, if_neg (by omega)]
theorem heat_SB {z : gX} {y : gY} {v n : Int} (hn : 0 ≤ n) (h : SB z y 0) : SB (actM z 0 v) (yU (kpY y n) 40 1 (kH (z 15 0 0 + v))) 0 := fun k k0 k1 => by
  rw [actM_w0 rfl, yU_at]
  by_cases c : k = 0
  · rw [if_pos (by omega), c]; rfl
  · rw [if_neg (by omega), kp_h y hn (by omega) (by omega), sn_15 z _ c]; exact h k k0 k1
theorem salve_SB {z : gX} {y : gY} {i n : Int} (hn : 0 ≤ n) (h6 : z 10 0 0 ≤ 6) (h0 : 0 ≤ i) (h1 : i < z 10 0 0) (h : SB z y 0) : SB (actM z 1 i) (yU (kpY y n) 40 (5 + i) (z 5 i 0 + 1)) 0 := fun k k0 k1 => by
  rw [actM_w1 rfl, yU_at]
  by_cases c : k = 4 + i
  · rw [if_pos (by omega), c]
    unfold sn
    rw [if_neg (by omega), if_neg (by omega), if_neg (by omega), if_neg (by omega), if_pos (by omega), show 4 + i - 4 = i by omega]
    show _ = if i < z 10 0 0 then xU z 5 i 0 (z 5 i 0 + 1) 5 i 0 else 0
    rw [if_pos h1, xU_same]
  · rw [if_neg (by omega), kp_h y hn (by omega) (by omega), sn_5 z h0 c]; exact h k k0 k1
theorem sum_upd {f g : Int → Int} {i : Int} (h0 : 0 ≤ i) (h : ∀ q : Int, q ≠ i → g q = f q) : ∀ n : Nat, i < (n : Int) → sumN g n = sumN f n - f i + g i
  | 0, h1 => by omega
  | n + 1, h1 => by
    show sumN g n + g (n : Int) = sumN f n + f (n : Int) - f i + g i
    rcases (show i < (n : Int) ∨ i = (n : Int) by omega) with c | c
    · rw [sum_upd h0 h n c, h (n : Int) (by omega)]; omega
    · have e : sumN g n = sumN f n := sumN_cong (fun q q0 q1 => h q (by omega))
      rw [e, c]; omega
theorem sumZ_upd {f g : Int → Int} {i n : Int} (h0 : 0 ≤ i) (h1 : i < n) (h : ∀ q : Int, q ≠ i → g q = f q) : sumZ g n = sumZ f n - f i + g i := sum_upd h0 h n.toNat (by omega)
/-- what a trial changes, as it is told -/
abbrev tvU (z : gX) (i : Int) : Int := vU z i (z 15 0 0)
theorem try_tc {z : gX} {i : Int} (h0 : 0 ≤ i) (h1 : i < z 10 0 0) (h6 : z 6 i 0 = -9) : tcU (xU z 6 i 0 (tvU z i)) = tcU z + if tvU z i = 1 then 1 else 0 := by
  show sumZ (fun q => if xU z 6 i 0 (tvU z i) 6 q 0 = 1 then 1 else 0) (z 10 0 0) = _
  have e := sumZ_upd (f := fun q => if z 6 q 0 = 1 then 1 else 0) (g := fun q => if xU z 6 i 0 (tvU z i) 6 q 0 = 1 then 1 else 0) h0 h1 (fun q hq => by
    show (if xU z 6 i 0 (tvU z i) 6 q 0 = 1 then (1 : Int) else 0) = if z 6 q 0 = 1 then 1 else 0
    rw [show xU z 6 i 0 (tvU z i) 6 q 0 = z 6 q 0 by rw [xU_at, if_neg (fun c => hq c.1)]])
  rw [e]
  show tcU z - (if z 6 i 0 = 1 then 1 else 0) + (if xU z 6 i 0 (tvU z i) 6 i 0 = 1 then 1 else 0) = _
  rw [xU_same, if_neg (by omega), Int.sub_zero]
theorem try_sn {z : gX} {i : Int} (hN : NOK z) (h0 : 0 ≤ i) (h1 : i < z 10 0 0) (h6 : z 6 i 0 = -9) (h7 : z 7 i 0 = 0) {k : Int} (k0 : 0 ≤ k) (k1 : k < 16) : sn (actM z 2 i) k = if k = 0 then sBeh (z 14 0 0) (tvU z i) (tcU z + if tvU z i = 1 then 1 else 0) (z 15 0 0) else if k = 1 then bitsZ (fun q => z 6 q 0 ≠ -9 ∨ q = i) (z 10 0 0) else if k = 2 then tcU z + (if tvU z i = 1 then 1 else 0) else if k = 3 then twU z + (if sWr (z 2 i 0) (tvU z i) then 1 else 0) else if k = 10 + i then tvU z i else sn z k := by
  have hv := vU_r z i (z 15 0 0)
  have hM := actM_w2 (x := z) (h := i) (rfl : (2 : Int) = 2)
  have e6 : ∀ q : Int, actM z 2 i 6 q 0 = if q = i then tvU z i else z 6 q 0 := fun q => by
    rw [hM, xU_k (by decide), xU_k (by decide), xU_at]
    by_cases c : q = i
    · rw [if_pos ⟨c, rfl⟩, if_pos c]
    · rw [if_neg (fun w => c w.1), if_neg c]
  have e7 : ∀ q : Int, actM z 2 i 7 q 0 = if q = i then (if sWr (z 2 i 0) (tvU z i) then 1 else 0) else z 7 q 0 := fun q => by
    rw [hM, xU_k (by decide), xU_at]
    by_cases c : q = i
    · rw [if_pos ⟨c, rfl⟩, if_pos c]
    · rw [if_neg (fun w => c w.1), if_neg c, xU_k (by decide)]
  have e10 : actM z 2 i 10 0 0 = z 10 0 0 := by rw [actM_k (by decide) (by decide) (by decide) (by decide)]
  have e15 : actM z 2 i 15 0 0 = sBeh (z 14 0 0) (tvU z i) (tcU z + if tvU z i = 1 then 1 else 0) (z 15 0 0) := by
    rw [hM, xU_same, try_tc h0 h1 h6]
  have e5 : ∀ q : Int, actM z 2 i 5 q 0 = z 5 q 0 := fun q => by rw [hM, xU_k (by decide), xU_k (by decide), xU_k (by decide)]
  have a1 : trU (actM z 2 i) = bitsZ (fun q => z 6 q 0 ≠ -9 ∨ q = i) (z 10 0 0) := by
    show bitsZ (fun q => actM z 2 i 6 q 0 ≠ -9) (actM z 2 i 10 0 0) = _
    rw [e10]
    refine bitsZ_cong (fun q _ _ => ?_)
    rw [e6 q]
    by_cases c : q = i
    · rw [if_pos c]; exact ⟨fun _ => Or.inr c, fun _ => (by have q0 : 0 ≤ tvU z i := hv.1; omega)⟩
    · rw [if_neg c]; exact ⟨fun w => Or.inl w, fun w => w.elim id (fun d => absurd d c)⟩
  have a2 : tcU (actM z 2 i) = tcU z + if tvU z i = 1 then 1 else 0 := by
    rw [← try_tc h0 h1 h6]
    show sumZ (fun q => if actM z 2 i 6 q 0 = 1 then 1 else 0) (actM z 2 i 10 0 0) = sumZ (fun q => if xU z 6 i 0 (tvU z i) 6 q 0 = 1 then 1 else 0) (z 10 0 0)
    rw [e10]
    refine sumZ_cong (fun q _ _ => ?_)
    rw [show actM z 2 i 6 q 0 = xU z 6 i 0 (tvU z i) 6 q 0 by
      rw [e6 q, xU_at]
      by_cases c : q = i
      · rw [if_pos c, if_pos ⟨c, rfl⟩]
      · rw [if_neg c, if_neg (fun w => c w.1)]]
  have a3 : twU (actM z 2 i) = twU z + if sWr (z 2 i 0) (tvU z i) then 1 else 0 := by
    show sumZ (fun q => if actM z 2 i 7 q 0 = 1 then 1 else 0) (actM z 2 i 10 0 0) = _
    rw [e10]
    have e := sumZ_upd (f := fun q => if z 7 q 0 = 1 then 1 else 0) (g := fun q => if actM z 2 i 7 q 0 = 1 then 1 else 0) h0 h1 (fun q hq => by
      show (if actM z 2 i 7 q 0 = 1 then (1 : Int) else 0) = if z 7 q 0 = 1 then 1 else 0
      rw [e7 q, if_neg hq])
    rw [e]
    show twU z - (if z 7 i 0 = 1 then 1 else 0) + (if actM z 2 i 7 i 0 = 1 then 1 else 0) = _
    rw [if_neg (show ¬ z 7 i 0 = 1 by omega), Int.sub_zero]
    by_cases c : sWr (z 2 i 0) (tvU z i)
    · rw [if_pos (show actM z 2 i 7 i 0 = 1 by rw [e7 i, if_pos rfl, if_pos c]), if_pos c]
    · rw [if_neg (show ¬ actM z 2 i 7 i 0 = 1 by rw [e7 i, if_pos rfl, if_neg c]; decide), if_neg c]
  unfold sn
  rw [e15, a1, a2, a3, e10]
  refine ite_congr rfl (fun _ => rfl) (fun c1 => ite_congr rfl (fun _ => rfl) (fun c2 => ite_congr rfl (fun _ => rfl) (fun c3 => ite_congr rfl (fun _ => rfl) (fun c4 => ?_))))
  by_cases c : k = 10 + i
  · rw [if_pos c, if_neg (by omega), if_pos (by omega), e6, if_pos (by omega)]
  · rw [if_neg c, if_neg c1, if_neg c2, if_neg c3, if_neg c4]
    refine ite_congr rfl (fun _ => ite_congr rfl (fun _ => e5 _) (fun _ => rfl)) (fun c5 => ite_congr rfl (fun _ => ?_) (fun _ => rfl))
    rw [e6, if_neg (by omega)]
def TRP (z : gX) (y w : gY) (b i : Int) : Prop := (∀ k : Int, k ≠ 40 → w k = y k) ∧ (∀ j : Int, ¬ (b + 1 ≤ j ∧ j < b + 17) → w 40 j = y 40 j) ∧ SB (actM z 2 i) w b
theorem TRP_n {z : gX} {y : gY} {b i D W : Int} (hN : NOK z) (hB : SB z y b) (h0 : 0 ≤ i) (h1 : i < z 10 0 0) (h6 : z 6 i 0 = -9) (h7 : z 7 i 0 = 0) (hv : tvU z i ≠ 1) (hD : D = bitsZ (fun q => z 6 q 0 ≠ -9 ∨ q = i) (z 10 0 0)) (hW : W = twU z + if sWr (z 2 i 0) (tvU z i) then 1 else 0) :
    TRP z y (yU (yU (yU y 40 (b + 2) D) 40 (b + 11 + i) (tvU z i)) 40 (b + 4) W) b i := by
  have h10 := hN.2.1
  refine ⟨fun k hk => by rw [yU_k hk, yU_k hk, yU_k hk], fun j hj => by rw [yU_j (by omega), yU_j (by omega), yU_j (by omega)], fun k k0 k1 => ?_⟩
  rw [try_sn hN h0 h1 h6 h7 k0 k1, if_neg hv, Int.add_zero, yU_at, yU_at, yU_at]
  have e0 : sBeh (z 14 0 0) (tvU z i) (tcU z) (z 15 0 0) = z 15 0 0 := by unfold sBeh; rw [if_neg (fun q => hv q.1)]
  rw [e0]
  rcases (show k = 0 ∨ k = 1 ∨ k = 2 ∨ k = 3 ∨ k = 10 + i ∨ (4 ≤ k ∧ k ≠ 10 + i) by omega) with c | c | c | c | c | c
  · rw [if_neg (by omega), if_neg (by omega), if_neg (by omega), if_pos c, hB k k0 k1, c]; rfl
  · rw [if_neg (by omega), if_neg (by omega), if_pos (by omega), if_neg (by omega), if_pos c]; exact hD
  · rw [if_neg (by omega), if_neg (by omega), if_neg (by omega), if_neg (by omega), if_neg (by omega), if_pos c, hB k k0 k1, c]; rfl
  · rw [if_pos (by omega), if_neg (by omega), if_neg (by omega), if_neg (by omega), if_pos c]; exact hW
  · rw [if_neg (by omega), if_pos (by omega), if_neg (by omega), if_neg (by omega), if_neg (by omega), if_neg (by omega), if_pos c]
  · rw [if_neg (by omega), if_neg (by omega), if_neg (by omega), if_neg (by omega), if_neg (by omega), if_neg (by omega), if_neg (by omega), if_neg (by omega)]; exact hB k k0 k1
theorem TRP_y {z : gX} {y : gY} {b i D W C H : Int} (hN : NOK z) (hB : SB z y b) (h0 : 0 ≤ i) (h1 : i < z 10 0 0) (h6 : z 6 i 0 = -9) (h7 : z 7 i 0 = 0) (hv : tvU z i = 1) (hD : D = bitsZ (fun q => z 6 q 0 ≠ -9 ∨ q = i) (z 10 0 0)) (hW : W = twU z + if sWr (z 2 i 0) (tvU z i) then 1 else 0) (hC : C = tcU z + 1) (hH : H = if z 14 0 0 ≤ tcU z + 1 then kH (z 15 0 0 + 5) else z 15 0 0) :
    TRP z y (yU (yU (yU (yU (yU y 40 (b + 2) D) 40 (b + 11 + i) (tvU z i)) 40 (b + 4) W) 40 (b + 3) C) 40 (b + 1) H) b i := by
  have h10 := hN.2.1
  refine ⟨fun k hk => by rw [yU_k hk, yU_k hk, yU_k hk, yU_k hk, yU_k hk], fun j hj => by rw [yU_j (by omega), yU_j (by omega), yU_j (by omega), yU_j (by omega), yU_j (by omega)], fun k k0 k1 => ?_⟩
  rw [try_sn hN h0 h1 h6 h7 k0 k1, if_pos hv, yU_at, yU_at, yU_at, yU_at, yU_at]
  have e0 : sBeh (z 14 0 0) (tvU z i) (tcU z + 1) (z 15 0 0) = if z 14 0 0 ≤ tcU z + 1 then kH (z 15 0 0 + 5) else z 15 0 0 := by
    unfold sBeh
    by_cases c : z 14 0 0 ≤ tcU z + 1
    · rw [if_pos ⟨hv, c⟩, if_pos c]
    · rw [if_neg (fun q => c q.2), if_neg c]
  rw [e0]
  rcases (show k = 0 ∨ k = 1 ∨ k = 2 ∨ k = 3 ∨ k = 10 + i ∨ (4 ≤ k ∧ k ≠ 10 + i) by omega) with c | c | c | c | c | c
  · rw [if_pos (by omega), if_pos c]; exact hH
  · rw [if_neg (by omega), if_neg (by omega), if_neg (by omega), if_neg (by omega), if_pos (by omega), if_neg (by omega), if_pos c]; exact hD
  · rw [if_neg (by omega), if_pos (by omega), if_neg (by omega), if_neg (by omega), if_pos c]; exact hC
  · rw [if_neg (by omega), if_neg (by omega), if_pos (by omega), if_neg (by omega), if_neg (by omega), if_neg (by omega), if_pos c]; exact hW
  · rw [if_neg (by omega), if_neg (by omega), if_neg (by omega), if_pos (by omega), if_neg (by omega), if_neg (by omega), if_neg (by omega), if_neg (by omega), if_pos c]
  · rw [if_neg (by omega), if_neg (by omega), if_neg (by omega), if_neg (by omega), if_neg (by omega), if_neg (by omega), if_neg (by omega), if_neg (by omega), if_neg (by omega), if_neg (by omega)]; exact hB k k0 k1
theorem per_15 (z : gX) (v : Int) : perM z 0 v 15 0 0 = kH (z 15 0 0 + v) := by unfold perM; rw [actM_w0 rfl, xU_same]; rfl
theorem per_5 (z : gX) (i : Int) : perM z 1 i 5 i 0 = z 5 i 0 + 1 := by unfold perM; rw [actM_w1 rfl, xU_same]; rfl
theorem per_6 (z : gX) {i : Int} (hw : wOK z 2 i) : perM z 2 i 6 i 0 = tvU z i := by
  have hh := hw.2.2 (by omega)
  rw [perM_cE hw 6 i 0 (by omega), actM_w2 rfl, xU_k (by decide), xU_k (by decide), xU_same]
theorem per_7 (z : gX) {i : Int} (hw : wOK z 2 i) : perM z 2 i 7 i 0 = if sWr (z 2 i 0) (tvU z i) then 1 else 0 := by
  have hh := hw.2.2 (by omega)
  rw [perM_cE hw 7 i 0 (by omega), actM_w2 rfl, xU_k (by decide), xU_same]
set_option maxRecDepth 20000 in
theorem c_X8_keepPast (l : Launch) (D : gD) (ad : gA) (x : gX) (y : gY) (n : Int) (h0 : y 40 0 = n) (hn : 0 ≤ n ∧ n < 40) : gC l D ad 0 yX8_keepPast cX8_keepPast 2 none [.ref (ad 8 (0))] x y (pV (x) (kpY y n)) := by
  refine g_met RX8 rfl (by decide +kernel) [(0, .ref (ad 8 (0)))] rfl (Nat.le_of_ble_eq_true rfl) (fun Θ F hR => ?_)
  refine g_iconst F dX8_keepPast_0 (0) (by decide) ?_
  refine g_istore_n F [(1, .int (J (0))), (0, .ref (ad 8 (0)))] dX8_keepPast_1 rfl (by decide) rfl ?_
  have L2 : ∀ (N : Nat) (q : Int), 0 ≤ q ∧ q ≤ 16 → (16 - q).toNat < N → gW Θ l D ad 2 2 [(0, .ref (ad 8 (0))), (1, .int (J (q)))] [] x (kpM y n q) := by
    intro N
    induction N with
    | zero => intro q hq hFu; omega
    | succ N ih2 =>
      intro q hq hFu
      refine g_iload_n F dX8_keepPast_2 rfl 1 rfl ?_
      refine g_bipush F dX8_keepPast_3 (16) (by decide) ?_
      refine g_icmp_ge 41 F dX8_keepPast_5 (by omega) (by decide) rfl (fun c_1 => ?_) (fun c_1 => ?_)
      · skip
        refine g_aload_n F dX8_keepPast_41 rfl 0 rfl ?_
        refine gg_Model_row F fk_X8_7 dX8_keepPast_42 ?_
        refine g_iconst F dX8_keepPast_45 (0) (by decide) ?_
        refine g_dup2 F dX8_keepPast_46 rfl rfl ?_
        refine ga_40 F (by decide) dX8_keepPast_47 ?_
        refine g_topi (b := n) (by (unfold kpM; rw [if_neg (by omega)]; exact h0)) ?_
        refine g_iconst F dX8_keepPast_48 (1) (by decide) ?_
        refine g_iadd F dX8_keepPast_49 ?_
        refine gs_40 F (by decide) dX8_keepPast_50 ?_
        exact g_vreturn F hR dX8_keepPast_51 (pV_i rfl (by rw [show q = 16 by omega]; rfl))
      · skip
        refine g_aload_n F dX8_keepPast_8 rfl 0 rfl ?_
        refine gg_Model_row F fk_X8_7 dX8_keepPast_9 ?_
        refine g_bipush F dX8_keepPast_12 (17) (by decide) ?_
        refine g_bipush F dX8_keepPast_14 (16) (by decide) ?_
        refine g_aload_n F dX8_keepPast_16 rfl 0 rfl ?_
        refine gg_Model_row F fk_X8_7 dX8_keepPast_17 ?_
        refine g_iconst F dX8_keepPast_20 (0) (by decide) ?_
        refine ga_40 F (by decide) dX8_keepPast_21 ?_
        refine g_topi (b := n) (by (unfold kpM; rw [if_neg (by omega)]; exact h0)) ?_
        refine g_imul F dX8_keepPast_22 ?_
        refine g_iadd F dX8_keepPast_23 ?_
        refine g_iload_n F dX8_keepPast_24 rfl 1 rfl ?_
        refine g_iadd F dX8_keepPast_25 ?_
        refine g_aload_n F dX8_keepPast_26 rfl 0 rfl ?_
        refine gg_Model_row F fk_X8_7 dX8_keepPast_27 ?_
        refine g_iconst F dX8_keepPast_30 (1) (by decide) ?_
        refine g_iload_n F dX8_keepPast_31 rfl 1 rfl ?_
        refine g_iadd F dX8_keepPast_32 ?_
        refine ga_40 F (by omega) dX8_keepPast_33 ?_
        refine g_topi (b := y 40 (1 + q)) (by unfold kpM; rw [if_neg (by omega)]) ?_
        refine gs_40 F (by omega) dX8_keepPast_34 ?_
        refine g_iinc F [(1, .int (J (q + 1))), (0, .ref (ad 8 (0)))] 1 rfl dX8_keepPast_35 (by decide) rfl ?_
        refine g_goto F 2 dX8_keepPast_38 rfl ?_
        refine g_sub [1, 0] (lv' := [(0, .ref (ad 8 (0))), (1, .int (J (q + 1)))]) rfl ?_
        exact gW_eq (ih2 (q + 1) (by omega) (by omega)) rfl rfl rfl (rfl) (kpM_s _ _ (by omega))
  refine g_sub [1, 0] (lv' := [(0, .ref (ad 8 (0))), (1, .int (J (0)))]) rfl ?_
  exact gW_eq (L2 _ (0) (by omega) (Nat.lt_succ_self _)) rfl rfl rfl (rfl) ((kpM_0 _ _).symm)

set_option maxRecDepth 20000 in
theorem c_X8_tryAt (l : Launch) (D : gD) (ad : gA) (x : gX) (y : gY) (z : gX) (b i : Int) (hST : ST z y) (hN : NOK z) (hB : SB z y b) (hi : 0 ≤ i ∧ i < z 10 0 0) (hb : 0 ≤ b ∧ b ≤ 2628) (h6 : z 6 i 0 = -9) (h7 : z 7 i 0 = 0) : gC l D ad 6 yX8_tryAt cX8_tryAt 4 (some .int) [.ref (ad 8 (0)), .int (J (b)), .int (J (i))] x y (pH (.int (J (tvU z i))) (x) (fun w9 => TRP z y w9 b i)) := by
  refine g_met RX8 rfl (by decide +kernel) [(0, .ref (ad 8 (0))), (1, .int (J (b))), (2, .int (J (i)))] rfl (Nat.le_of_ble_eq_true rfl) (fun Θ F hR => ?_)
  have hm := hN.2.2.2 i hi.1 hi.2
  have h10 := hN.2.1
  have h15 := hN.2.2.1
  have hv := vU_r z i (z 15 0 0)
  have htc := tcU_r2 h10
  refine g_aload_n F dX8_tryAt_0 rfl 0 rfl ?_
  refine g_iload_n F dX8_tryAt_1 rfl 1 rfl ?_
  refine g_iload_n F dX8_tryAt_2 rfl 2 rfl ?_
  refine g_aload_n F dX8_tryAt_3 rfl 0 rfl ?_
  refine gg_Model_row F fk_X8_7 dX8_tryAt_4 ?_
  refine g_iload_n F dX8_tryAt_7 rfl 1 rfl ?_
  refine g_iconst F dX8_tryAt_8 (1) (by decide) ?_
  refine g_iadd F dX8_tryAt_9 ?_
  refine ga_40 F (by omega) dX8_tryAt_10 ?_
  refine g_topi (b := z 15 0 0) (SB_0 hB) ?_
  refine g_callV 3 F (As := [.int (J (b)), .int (J (i)), .int (J (z 15 0 0))]) (st := []) (c_X8_tellsAt l D ad x y z (b) (i) (z 15 0 0) (hST) (hN) (hB) (by omega) (by omega) (by omega)) (gR_8) rfl mk_X8_222 ki_X8_tellsAt kc_X8_tellsAt (by decide +kernel) rfl (by decide) dX8_tryAt_11 rfl (Nat.le_of_ble_eq_true rfl) (pI_k ?_)
  refine g_istore_n F [(3, .int (J (vU z (i) (z 15 0 0)))), (0, .ref (ad 8 (0))), (1, .int (J (b))), (2, .int (J (i)))] dX8_tryAt_14 rfl (by decide) rfl ?_
  refine g_aload_n F dX8_tryAt_15 rfl 1 rfl ?_
  refine gg_Model_row F fk_X8_7 dX8_tryAt_16 ?_
  refine g_iload_n F dX8_tryAt_19 rfl 2 rfl ?_
  refine g_iconst F dX8_tryAt_20 (2) (by decide) ?_
  refine g_iadd F dX8_tryAt_21 ?_
  refine g_dup2 F dX8_tryAt_22 rfl rfl ?_
  refine ga_40 F (by omega) dX8_tryAt_23 ?_
  refine g_topi (b := trU z) (SB_1 hB) ?_
  refine g_iconst F dX8_tryAt_24 (1) (by decide) ?_
  refine g_iload_n F dX8_tryAt_25 rfl 3 rfl ?_
  refine g_ishl F dX8_tryAt_26 (p2 (i)) (J_shl (by omega)) ?_
  refine g_ior F dX8_tryAt_27 (bitsZ (fun q => z 6 q 0 ≠ -9 ∨ q = i) (z 10 0 0)) (bits_put (P := fun q => z 6 q 0 ≠ -9) hi.1 hi.2) ?_
  refine gs_40 F (by omega) dX8_tryAt_28 ?_
  refine g_aload_n F dX8_tryAt_29 rfl 1 rfl ?_
  refine gg_Model_row F fk_X8_7 dX8_tryAt_30 ?_
  refine g_iload_n F dX8_tryAt_33 rfl 2 rfl ?_
  refine g_bipush F dX8_tryAt_34 (11) (by decide) ?_
  refine g_iadd F dX8_tryAt_36 ?_
  refine g_iload_n F dX8_tryAt_37 rfl 3 rfl ?_
  refine g_iadd F dX8_tryAt_38 ?_
  refine g_iload_n F dX8_tryAt_39 rfl 0 rfl ?_
  refine gs_40 F (by omega) dX8_tryAt_40 ?_
  refine g_aload_n F dX8_tryAt_41 rfl 1 rfl ?_
  refine gg_Model_row F fk_X8_7 dX8_tryAt_42 ?_
  refine g_iload_n F dX8_tryAt_45 rfl 2 rfl ?_
  refine g_iconst F dX8_tryAt_46 (4) (by decide) ?_
  refine g_iadd F dX8_tryAt_47 ?_
  refine g_dup2 F dX8_tryAt_48 rfl rfl ?_
  refine ga_40 F (by omega) dX8_tryAt_49 ?_
  refine g_topi (b := twU z) (by rw [yU_j (by omega), yU_j (by omega)]; exact SB_3 hB) ?_
  refine g_aload_n F dX8_tryAt_50 rfl 1 rfl ?_
  refine g_iload_n F dX8_tryAt_51 rfl 3 rfl ?_
  refine g_iload_n F dX8_tryAt_52 rfl 0 rfl ?_
  refine g_callV 2 F (As := [.int (J (i)), .int (J (vU z (i) (z 15 0 0)))]) (st := [.int (J (twU z)), .int (J ((b) + (4))), .ref (ad 40 (0))]) (c_X8_isWrong l D ad x (yU (yU y 40 ((b) + (2)) (bitsZ (fun q => z 6 q 0 ≠ -9 ∨ q = i) (z 10 0 0))) 40 (((b) + (11)) + (i)) (vU z (i) (z 15 0 0))) z (i) (vU z (i) (z 15 0 0)) (hST) (hN) (by omega) (by omega)) (gR_8) rfl mk_X8_226 ki_X8_isWrong kc_X8_isWrong (by decide +kernel) rfl (by decide) dX8_tryAt_53 rfl (Nat.le_of_ble_eq_true rfl) (pB_k ?_)
  refine g_ifb_eq 63 F dX8_tryAt_56 rfl (fun c_1 => ?_) (fun c_1 => ?_)
  · skip
    refine g_iconst F dX8_tryAt_63 (0) (by decide) ?_
    refine g_iadd F dX8_tryAt_64 ?_
    refine gs_40 F (by omega) dX8_tryAt_65 ?_
    refine g_iload_n F dX8_tryAt_66 rfl 0 rfl ?_
    refine g_iconst F dX8_tryAt_67 (1) (by decide) ?_
    refine g_icmp_ne 123 F dX8_tryAt_68 (by omega) (by decide) rfl (fun c_2 => ?_) (fun c_2 => ?_)
    · skip
      refine g_iload_n F dX8_tryAt_123 rfl 0 rfl ?_
      exact g_ireturn F hR dX8_tryAt_124 (pH_z (by rfl) (by first | exact TRP_n hN hB hi.1 hi.2 h6 h7 (by omega) rfl (by first | (rw [if_pos (by assumption)]; done) | (rw [if_neg (by assumption)]; done)) | exact TRP_y hN hB hi.1 hi.2 h6 h7 (by omega) rfl (by first | (rw [if_pos (by assumption)]; done) | (rw [if_neg (by assumption)]; done)) rfl (by first | (rw [if_pos (by omega)]; done) | (rw [if_neg (by omega), Int.add_zero]; unfold kH; omega))) rfl)
    · skip
      refine g_aload_n F dX8_tryAt_71 rfl 1 rfl ?_
      refine gg_Model_row F fk_X8_7 dX8_tryAt_72 ?_
      refine g_iload_n F dX8_tryAt_75 rfl 2 rfl ?_
      refine g_iconst F dX8_tryAt_76 (3) (by decide) ?_
      refine g_iadd F dX8_tryAt_77 ?_
      refine g_dup2 F dX8_tryAt_78 rfl rfl ?_
      refine ga_40 F (by omega) dX8_tryAt_79 ?_
      refine g_topi (b := tcU z) (by rw [yU_j (by omega), yU_j (by omega), yU_j (by omega)]; exact SB_2 hB) ?_
      refine g_iconst F dX8_tryAt_80 (1) (by decide) ?_
      refine g_iadd F dX8_tryAt_81 ?_
      refine gs_40 F (by omega) dX8_tryAt_82 ?_
      refine g_aload_n F dX8_tryAt_83 rfl 1 rfl ?_
      refine gg_Model_row F fk_X8_7 dX8_tryAt_84 ?_
      refine g_iload_n F dX8_tryAt_87 rfl 2 rfl ?_
      refine g_iconst F dX8_tryAt_88 (1) (by decide) ?_
      refine g_iadd F dX8_tryAt_89 ?_
      refine g_aload_n F dX8_tryAt_90 rfl 1 rfl ?_
      refine gg_Model_row F fk_X8_7 dX8_tryAt_91 ?_
      refine g_iload_n F dX8_tryAt_94 rfl 2 rfl ?_
      refine g_iconst F dX8_tryAt_95 (1) (by decide) ?_
      refine g_iadd F dX8_tryAt_96 ?_
      refine ga_40 F (by omega) dX8_tryAt_97 ?_
      refine g_topi (b := z 15 0 0) (by rw [yU_j (by omega), yU_j (by omega), yU_j (by omega), yU_j (by omega)]; exact SB_0 hB) ?_
      refine g_aload_n F dX8_tryAt_98 rfl 1 rfl ?_
      refine gg_Model_row F fk_X8_7 dX8_tryAt_99 ?_
      refine g_iload_n F dX8_tryAt_102 rfl 2 rfl ?_
      refine g_iconst F dX8_tryAt_103 (3) (by decide) ?_
      refine g_iadd F dX8_tryAt_104 ?_
      refine ga_40 F (by omega) dX8_tryAt_105 ?_
      refine g_topi (b := (tcU z) + (1)) (by simp [yU]) ?_
      refine g_aload_n F dX8_tryAt_106 rfl 1 rfl ?_
      refine gg_Model_king F fk_X8_154 dX8_tryAt_107 ?_
      refine g_topi (b := y 4 (0)) (by simp [yU]) ?_
      refine g_topi (b := z 14 0 0) (hST.2.2.2.1) ?_
      refine g_icmp_lt 117 F dX8_tryAt_110 (by omega) (by omega) rfl (fun c_3 => ?_) (fun c_3 => ?_)
      · skip
        refine g_iconst F dX8_tryAt_117 (0) (by decide) ?_
        refine g_iadd F dX8_tryAt_118 ?_
        refine g_callS 1 F (As := [.int (J ((z 15 0 0) + (0)))]) (st := [.int (J ((b) + (1))), .ref (ad 40 (0))]) (c_X8_heatOf l D ad x (yU (yU (yU (yU y 40 ((b) + (2)) (bitsZ (fun q => z 6 q 0 ≠ -9 ∨ q = i) (z 10 0 0))) 40 (((b) + (11)) + (i)) (vU z (i) (z 15 0 0))) 40 ((b) + (4)) ((twU z) + (0))) 40 ((b) + (3)) ((tcU z) + (1))) ((z 15 0 0) + (0)) (by omega)) rfl mk_X8_213 ki_X8_heatOf kc_X8_heatOf (by decide +kernel) rfl (by decide) dX8_tryAt_119 rfl (Nat.le_of_ble_eq_true rfl) (pI_k ?_)
        refine gs_40 F (by omega) dX8_tryAt_122 ?_
        refine g_iload_n F dX8_tryAt_123 rfl 0 rfl ?_
        exact g_ireturn F hR dX8_tryAt_124 (pH_z (by rfl) (by first | exact TRP_n hN hB hi.1 hi.2 h6 h7 (by omega) rfl (by first | (rw [if_pos (by assumption)]; done) | (rw [if_neg (by assumption)]; done)) | exact TRP_y hN hB hi.1 hi.2 h6 h7 (by omega) rfl (by first | (rw [if_pos (by assumption)]; done) | (rw [if_neg (by assumption)]; done)) rfl (by first | (rw [if_pos (by omega)]; done) | (rw [if_neg (by omega), Int.add_zero]; unfold kH; omega))) rfl)
      · skip
        refine g_iconst F dX8_tryAt_113 (5) (by decide) ?_
        refine g_goto F 118 dX8_tryAt_114 rfl ?_
        refine g_iadd F dX8_tryAt_118 ?_
        refine g_callS 1 F (As := [.int (J ((z 15 0 0) + (5)))]) (st := [.int (J ((b) + (1))), .ref (ad 40 (0))]) (c_X8_heatOf l D ad x (yU (yU (yU (yU y 40 ((b) + (2)) (bitsZ (fun q => z 6 q 0 ≠ -9 ∨ q = i) (z 10 0 0))) 40 (((b) + (11)) + (i)) (vU z (i) (z 15 0 0))) 40 ((b) + (4)) ((twU z) + (0))) 40 ((b) + (3)) ((tcU z) + (1))) ((z 15 0 0) + (5)) (by omega)) rfl mk_X8_213 ki_X8_heatOf kc_X8_heatOf (by decide +kernel) rfl (by decide) dX8_tryAt_119 rfl (Nat.le_of_ble_eq_true rfl) (pI_k ?_)
        refine gs_40 F (by omega) dX8_tryAt_122 ?_
        refine g_iload_n F dX8_tryAt_123 rfl 0 rfl ?_
        exact g_ireturn F hR dX8_tryAt_124 (pH_z (by rfl) (by first | exact TRP_n hN hB hi.1 hi.2 h6 h7 (by omega) rfl (by first | (rw [if_pos (by assumption)]; done) | (rw [if_neg (by assumption)]; done)) | exact TRP_y hN hB hi.1 hi.2 h6 h7 (by omega) rfl (by first | (rw [if_pos (by assumption)]; done) | (rw [if_neg (by assumption)]; done)) rfl (by first | (rw [if_pos (by omega)]; done) | (rw [if_neg (by omega), Int.add_zero]; unfold kH; omega))) rfl)
  · skip
    refine g_iconst F dX8_tryAt_59 (1) (by decide) ?_
    refine g_goto F 64 dX8_tryAt_60 rfl ?_
    refine g_iadd F dX8_tryAt_64 ?_
    refine gs_40 F (by omega) dX8_tryAt_65 ?_
    refine g_iload_n F dX8_tryAt_66 rfl 0 rfl ?_
    refine g_iconst F dX8_tryAt_67 (1) (by decide) ?_
    refine g_icmp_ne 123 F dX8_tryAt_68 (by omega) (by decide) rfl (fun c_4 => ?_) (fun c_4 => ?_)
    · skip
      refine g_iload_n F dX8_tryAt_123 rfl 0 rfl ?_
      exact g_ireturn F hR dX8_tryAt_124 (pH_z (by rfl) (by first | exact TRP_n hN hB hi.1 hi.2 h6 h7 (by omega) rfl (by first | (rw [if_pos (by assumption)]; done) | (rw [if_neg (by assumption)]; done)) | exact TRP_y hN hB hi.1 hi.2 h6 h7 (by omega) rfl (by first | (rw [if_pos (by assumption)]; done) | (rw [if_neg (by assumption)]; done)) rfl (by first | (rw [if_pos (by omega)]; done) | (rw [if_neg (by omega), Int.add_zero]; unfold kH; omega))) rfl)
    · skip
      refine g_aload_n F dX8_tryAt_71 rfl 1 rfl ?_
      refine gg_Model_row F fk_X8_7 dX8_tryAt_72 ?_
      refine g_iload_n F dX8_tryAt_75 rfl 2 rfl ?_
      refine g_iconst F dX8_tryAt_76 (3) (by decide) ?_
      refine g_iadd F dX8_tryAt_77 ?_
      refine g_dup2 F dX8_tryAt_78 rfl rfl ?_
      refine ga_40 F (by omega) dX8_tryAt_79 ?_
      refine g_topi (b := tcU z) (by rw [yU_j (by omega), yU_j (by omega), yU_j (by omega)]; exact SB_2 hB) ?_
      refine g_iconst F dX8_tryAt_80 (1) (by decide) ?_
      refine g_iadd F dX8_tryAt_81 ?_
      refine gs_40 F (by omega) dX8_tryAt_82 ?_
      refine g_aload_n F dX8_tryAt_83 rfl 1 rfl ?_
      refine gg_Model_row F fk_X8_7 dX8_tryAt_84 ?_
      refine g_iload_n F dX8_tryAt_87 rfl 2 rfl ?_
      refine g_iconst F dX8_tryAt_88 (1) (by decide) ?_
      refine g_iadd F dX8_tryAt_89 ?_
      refine g_aload_n F dX8_tryAt_90 rfl 1 rfl ?_
      refine gg_Model_row F fk_X8_7 dX8_tryAt_91 ?_
      refine g_iload_n F dX8_tryAt_94 rfl 2 rfl ?_
      refine g_iconst F dX8_tryAt_95 (1) (by decide) ?_
      refine g_iadd F dX8_tryAt_96 ?_
      refine ga_40 F (by omega) dX8_tryAt_97 ?_
      refine g_topi (b := z 15 0 0) (by rw [yU_j (by omega), yU_j (by omega), yU_j (by omega), yU_j (by omega)]; exact SB_0 hB) ?_
      refine g_aload_n F dX8_tryAt_98 rfl 1 rfl ?_
      refine gg_Model_row F fk_X8_7 dX8_tryAt_99 ?_
      refine g_iload_n F dX8_tryAt_102 rfl 2 rfl ?_
      refine g_iconst F dX8_tryAt_103 (3) (by decide) ?_
      refine g_iadd F dX8_tryAt_104 ?_
      refine ga_40 F (by omega) dX8_tryAt_105 ?_
      refine g_topi (b := (tcU z) + (1)) (by simp [yU]) ?_
      refine g_aload_n F dX8_tryAt_106 rfl 1 rfl ?_
      refine gg_Model_king F fk_X8_154 dX8_tryAt_107 ?_
      refine g_topi (b := y 4 (0)) (by simp [yU]) ?_
      refine g_topi (b := z 14 0 0) (hST.2.2.2.1) ?_
      refine g_icmp_lt 117 F dX8_tryAt_110 (by omega) (by omega) rfl (fun c_5 => ?_) (fun c_5 => ?_)
      · skip
        refine g_iconst F dX8_tryAt_117 (0) (by decide) ?_
        refine g_iadd F dX8_tryAt_118 ?_
        refine g_callS 1 F (As := [.int (J ((z 15 0 0) + (0)))]) (st := [.int (J ((b) + (1))), .ref (ad 40 (0))]) (c_X8_heatOf l D ad x (yU (yU (yU (yU y 40 ((b) + (2)) (bitsZ (fun q => z 6 q 0 ≠ -9 ∨ q = i) (z 10 0 0))) 40 (((b) + (11)) + (i)) (vU z (i) (z 15 0 0))) 40 ((b) + (4)) ((twU z) + (1))) 40 ((b) + (3)) ((tcU z) + (1))) ((z 15 0 0) + (0)) (by omega)) rfl mk_X8_213 ki_X8_heatOf kc_X8_heatOf (by decide +kernel) rfl (by decide) dX8_tryAt_119 rfl (Nat.le_of_ble_eq_true rfl) (pI_k ?_)
        refine gs_40 F (by omega) dX8_tryAt_122 ?_
        refine g_iload_n F dX8_tryAt_123 rfl 0 rfl ?_
        exact g_ireturn F hR dX8_tryAt_124 (pH_z (by rfl) (by first | exact TRP_n hN hB hi.1 hi.2 h6 h7 (by omega) rfl (by first | (rw [if_pos (by assumption)]; done) | (rw [if_neg (by assumption)]; done)) | exact TRP_y hN hB hi.1 hi.2 h6 h7 (by omega) rfl (by first | (rw [if_pos (by assumption)]; done) | (rw [if_neg (by assumption)]; done)) rfl (by first | (rw [if_pos (by omega)]; done) | (rw [if_neg (by omega), Int.add_zero]; unfold kH; omega))) rfl)
      · skip
        refine g_iconst F dX8_tryAt_113 (5) (by decide) ?_
        refine g_goto F 118 dX8_tryAt_114 rfl ?_
        refine g_iadd F dX8_tryAt_118 ?_
        refine g_callS 1 F (As := [.int (J ((z 15 0 0) + (5)))]) (st := [.int (J ((b) + (1))), .ref (ad 40 (0))]) (c_X8_heatOf l D ad x (yU (yU (yU (yU y 40 ((b) + (2)) (bitsZ (fun q => z 6 q 0 ≠ -9 ∨ q = i) (z 10 0 0))) 40 (((b) + (11)) + (i)) (vU z (i) (z 15 0 0))) 40 ((b) + (4)) ((twU z) + (1))) 40 ((b) + (3)) ((tcU z) + (1))) ((z 15 0 0) + (5)) (by omega)) rfl mk_X8_213 ki_X8_heatOf kc_X8_heatOf (by decide +kernel) rfl (by decide) dX8_tryAt_119 rfl (Nat.le_of_ble_eq_true rfl) (pI_k ?_)
        refine gs_40 F (by omega) dX8_tryAt_122 ?_
        refine g_iload_n F dX8_tryAt_123 rfl 0 rfl ?_
        exact g_ireturn F hR dX8_tryAt_124 (pH_z (by rfl) (by first | exact TRP_n hN hB hi.1 hi.2 h6 h7 (by omega) rfl (by first | (rw [if_pos (by assumption)]; done) | (rw [if_neg (by assumption)]; done)) | exact TRP_y hN hB hi.1 hi.2 h6 h7 (by omega) rfl (by first | (rw [if_pos (by assumption)]; done) | (rw [if_neg (by assumption)]; done)) rfl (by first | (rw [if_pos (by omega)]; done) | (rw [if_neg (by omega), Int.add_zero]; unfold kH; omega))) rfl)

set_option maxRecDepth 20000 in
theorem c_X8_heat (l : Launch) (D : gD) (ad : gA) (x : gX) (y : gY) (z : gX) (v : Int) (hv : i32 v) (hRel : Rel z y) : gC l D ad 1 yX8_heat cX8_heat 2 (some .int) [.ref (ad 8 (0)), .int (J (v))] x y (pH (.int (J ((sHeat z v).1))) (x) (fun w9 => Rel (sHeat z v).2 w9)) := by
  refine g_met RX8 rfl (by decide +kernel) [(0, .ref (ad 8 (0))), (1, .int (J (v)))] rfl (Nat.le_of_ble_eq_true rfl) (fun Θ F hR => ?_)
  have hN := hRel.1.1
  have hRW := hRel.1.2.1
  have hDD := hRel.1.2.2.1
  have hST := hRel.2.1
  have hB := Rel_SB hRel
  have h10 := hN.2.1
  have h15 := hN.2.2.1
  have hds := hDD.1.1
  have h400 : y 40 0 = z 16 0 0 := by have q := (hRel.2.2.1 0 (by decide) (by decide)).1; exact q
  refine g_iload_n F dX8_heat_0 rfl 1 rfl ?_
  refine g_i2l F dX8_heat_1 (by omega) ?_
  refine g_ldc2 F ck_X8_208 dX8_heat_2 (-5) (by decide) ?_
  refine g_ldc2 F ck_X8_72 dX8_heat_5 (5) (by decide) ?_
  refine g_callS 3 F (As := [.long (Lg (v)), .long (Lg (-5)), .long (Lg (5))]) (st := []) (c_X8_in l D ad x y (v) (-5) (5) (by omega) (by omega) (by omega)) rfl mk_X8_74 ki_X8_in kc_X8_in (by decide +kernel) rfl (by decide) dX8_heat_8 rfl (Nat.le_of_ble_eq_true rfl) (pB_k ?_)
  refine g_ifb_eq 18 F dX8_heat_11 rfl (fun c_1 => ?_) (fun c_1 => ?_)
  · skip
    refine g_iconst F dX8_heat_18 (-1) (by decide) ?_
    exact g_ireturn F hR dX8_heat_19 (pH_z (by unfold sHeat; first | (rw [if_pos (by omega)]; done) | (rw [if_neg (by omega), if_pos (by omega)]; done) | (rw [if_neg (by omega), if_neg (by omega), if_pos (by omega)]; done) | (rw [if_neg (by omega), if_neg (by omega), if_neg (by omega)]; exact (per_15 z v).symm)) (by unfold sHeat; first | (rw [if_pos (by omega)]; exact hRel) | (rw [if_neg (by omega), if_pos (by omega)]; exact hRel) | (rw [if_neg (by omega), if_neg (by omega), if_pos (by omega)]; exact hRel) | (rw [if_neg (by omega), if_neg (by omega), if_neg (by omega)]; exact Rel_kp hRel (by omega) (by unfold wOK; omega) (fun q => absurd q (by decide)) (fun q => absurd q (by decide)) (heat_SB hds.1 hB) (fun j hj => by rw [yU_j (by omega)]) (fun k hk => by rw [yU_k hk, kp_k _ _ hk]))) rfl)
  · skip
    refine g_iload_n F dX8_heat_14 rfl 1 rfl ?_
    refine g_if_ne 20 F dX8_heat_15 (by omega) rfl (fun c_2 => ?_) (fun c_2 => ?_)
    · skip
      refine g_aload_n F dX8_heat_20 rfl 0 rfl ?_
      refine gg_Model_men F fk_X8_157 dX8_heat_21 ?_
      refine g_topi (b := z 10 0 0) (hST.2.2.2.2.1) ?_
      refine g_if_ne 30 F dX8_heat_24 (by omega) rfl (fun c_3 => ?_) (fun c_3 => ?_)
      · skip
        refine g_aload_n F dX8_heat_30 rfl 0 rfl ?_
        refine gg_Model_row F fk_X8_7 dX8_heat_31 ?_
        refine g_iconst F dX8_heat_34 (0) (by decide) ?_
        refine ga_40 F (by decide) dX8_heat_35 ?_
        refine g_topi (b := z 16 0 0) (h400) ?_
        refine g_bipush F dX8_heat_36 (40) (by decide) ?_
        refine g_icmp_ne 44 F dX8_heat_38 (by omega) (by decide) rfl (fun c_4 => ?_) (fun c_4 => ?_)
        · skip
          refine g_aload_n F dX8_heat_44 rfl 0 rfl ?_
          refine g_callV 0 F (As := []) (st := []) (c_X8_keepPast l D ad x y (z 16 0 0) (h400) (by omega)) (gR_8) rfl mk_X8_210 ki_X8_keepPast kc_X8_keepPast (by decide +kernel) rfl (by decide) dX8_heat_45 rfl (Nat.le_of_ble_eq_true rfl) (pV_k ?_)
          refine g_aload_n F dX8_heat_48 rfl 0 rfl ?_
          refine gg_Model_row F fk_X8_7 dX8_heat_49 ?_
          refine g_iconst F dX8_heat_52 (1) (by decide) ?_
          refine g_aload_n F dX8_heat_53 rfl 0 rfl ?_
          refine gg_Model_row F fk_X8_7 dX8_heat_54 ?_
          refine g_iconst F dX8_heat_57 (1) (by decide) ?_
          refine ga_40 F (by decide) dX8_heat_58 ?_
          refine g_topi (b := z 15 0 0) (by rw [kp_h _ hds.1 (by decide) (by decide)]; exact SB_00 hB) ?_
          refine g_iload_n F dX8_heat_59 rfl 1 rfl ?_
          refine g_iadd F dX8_heat_60 ?_
          refine g_callS 1 F (As := [.int (J ((z 15 0 0) + (v)))]) (st := [.int (J (1)), .ref (ad 40 (0))]) (c_X8_heatOf l D ad x (kpY y (z 16 0 0)) ((z 15 0 0) + (v)) (by omega)) rfl mk_X8_213 ki_X8_heatOf kc_X8_heatOf (by decide +kernel) rfl (by decide) dX8_heat_61 rfl (Nat.le_of_ble_eq_true rfl) (pI_k ?_)
          refine gs_40 F (by decide) dX8_heat_64 ?_
          refine g_aload_n F dX8_heat_65 rfl 0 rfl ?_
          refine gg_Model_row F fk_X8_7 dX8_heat_66 ?_
          refine g_iconst F dX8_heat_69 (1) (by decide) ?_
          refine ga_40 F (by decide) dX8_heat_70 ?_
          refine g_topi (b := kH ((z 15 0 0) + (v))) (by simp [yU]) ?_
          exact g_ireturn F hR dX8_heat_71 (pH_z (by unfold sHeat; first | (rw [if_pos (by omega)]; done) | (rw [if_neg (by omega), if_pos (by omega)]; done) | (rw [if_neg (by omega), if_neg (by omega), if_pos (by omega)]; done) | (rw [if_neg (by omega), if_neg (by omega), if_neg (by omega)]; exact (per_15 z v).symm)) (by unfold sHeat; first | (rw [if_pos (by omega)]; exact hRel) | (rw [if_neg (by omega), if_pos (by omega)]; exact hRel) | (rw [if_neg (by omega), if_neg (by omega), if_pos (by omega)]; exact hRel) | (rw [if_neg (by omega), if_neg (by omega), if_neg (by omega)]; exact Rel_kp hRel (by omega) (by unfold wOK; omega) (fun q => absurd q (by decide)) (fun q => absurd q (by decide)) (heat_SB hds.1 hB) (fun j hj => by rw [yU_j (by omega)]) (fun k hk => by rw [yU_k hk, kp_k _ _ hk]))) rfl)
        · skip
          refine g_bipush F dX8_heat_41 (-2) (by decide) ?_
          exact g_ireturn F hR dX8_heat_43 (pH_z (by unfold sHeat; first | (rw [if_pos (by omega)]; done) | (rw [if_neg (by omega), if_pos (by omega)]; done) | (rw [if_neg (by omega), if_neg (by omega), if_pos (by omega)]; done) | (rw [if_neg (by omega), if_neg (by omega), if_neg (by omega)]; exact (per_15 z v).symm)) (by unfold sHeat; first | (rw [if_pos (by omega)]; exact hRel) | (rw [if_neg (by omega), if_pos (by omega)]; exact hRel) | (rw [if_neg (by omega), if_neg (by omega), if_pos (by omega)]; exact hRel) | (rw [if_neg (by omega), if_neg (by omega), if_neg (by omega)]; exact Rel_kp hRel (by omega) (by unfold wOK; omega) (fun q => absurd q (by decide)) (fun q => absurd q (by decide)) (heat_SB hds.1 hB) (fun j hj => by rw [yU_j (by omega)]) (fun k hk => by rw [yU_k hk, kp_k _ _ hk]))) rfl)
      · skip
        refine g_bipush F dX8_heat_27 (-4) (by decide) ?_
        exact g_ireturn F hR dX8_heat_29 (pH_z (by unfold sHeat; first | (rw [if_pos (by omega)]; done) | (rw [if_neg (by omega), if_pos (by omega)]; done) | (rw [if_neg (by omega), if_neg (by omega), if_pos (by omega)]; done) | (rw [if_neg (by omega), if_neg (by omega), if_neg (by omega)]; exact (per_15 z v).symm)) (by unfold sHeat; first | (rw [if_pos (by omega)]; exact hRel) | (rw [if_neg (by omega), if_pos (by omega)]; exact hRel) | (rw [if_neg (by omega), if_neg (by omega), if_pos (by omega)]; exact hRel) | (rw [if_neg (by omega), if_neg (by omega), if_neg (by omega)]; exact Rel_kp hRel (by omega) (by unfold wOK; omega) (fun q => absurd q (by decide)) (fun q => absurd q (by decide)) (heat_SB hds.1 hB) (fun j hj => by rw [yU_j (by omega)]) (fun k hk => by rw [yU_k hk, kp_k _ _ hk]))) rfl)
    · skip
      refine g_iconst F dX8_heat_18 (-1) (by decide) ?_
      exact g_ireturn F hR dX8_heat_19 (pH_z (by unfold sHeat; first | (rw [if_pos (by omega)]; done) | (rw [if_neg (by omega), if_pos (by omega)]; done) | (rw [if_neg (by omega), if_neg (by omega), if_pos (by omega)]; done) | (rw [if_neg (by omega), if_neg (by omega), if_neg (by omega)]; exact (per_15 z v).symm)) (by unfold sHeat; first | (rw [if_pos (by omega)]; exact hRel) | (rw [if_neg (by omega), if_pos (by omega)]; exact hRel) | (rw [if_neg (by omega), if_neg (by omega), if_pos (by omega)]; exact hRel) | (rw [if_neg (by omega), if_neg (by omega), if_neg (by omega)]; exact Rel_kp hRel (by omega) (by unfold wOK; omega) (fun q => absurd q (by decide)) (fun q => absurd q (by decide)) (heat_SB hds.1 hB) (fun j hj => by rw [yU_j (by omega)]) (fun k hk => by rw [yU_k hk, kp_k _ _ hk]))) rfl)

set_option maxRecDepth 20000 in
theorem c_X8_salve (l : Launch) (D : gD) (ad : gA) (x : gX) (y : gY) (z : gX) (i : Int) (hi : i32 i) (hRel : Rel z y) : gC l D ad 2 yX8_salve cX8_salve 2 (some .int) [.ref (ad 8 (0)), .int (J (i))] x y (pH (.int (J ((sSalve z i).1))) (x) (fun w9 => Rel (sSalve z i).2 w9)) := by
  refine g_met RX8 rfl (by decide +kernel) [(0, .ref (ad 8 (0))), (1, .int (J (i)))] rfl (Nat.le_of_ble_eq_true rfl) (fun Θ F hR => ?_)
  have hN := hRel.1.1
  have hRW := hRel.1.2.1
  have hDD := hRel.1.2.2.1
  have hST := hRel.2.1
  have hB := Rel_SB hRel
  have h10 := hN.2.1
  have h15 := hN.2.2.1
  have hds := hDD.1.1
  have h400 : y 40 0 = z 16 0 0 := by have q := (hRel.2.2.1 0 (by decide) (by decide)).1; exact q
  refine g_aload_n F dX8_salve_0 rfl 0 rfl ?_
  refine g_iload_n F dX8_salve_1 rfl 1 rfl ?_
  refine g_callV 1 F (As := [.int (J (i))]) (st := []) (c_X8_isMan l D ad x y z (i) (hST) (hN) (by omega)) (gR_8) rfl mk_X8_191 ki_X8_isMan kc_X8_isMan (by decide +kernel) rfl (by decide) dX8_salve_2 rfl (Nat.le_of_ble_eq_true rfl) (pB_k ?_)
  refine g_ifb_ne 10 F dX8_salve_5 rfl (fun c_1 => ?_) (fun c_1 => ?_)
  · skip
    have hm := hN.2.2.2 i (by omega) (by omega)
    have hs3 := sal3 hRel.1 (i := i) (by omega) (by omega)
    refine g_aload_n F dX8_salve_10 rfl 0 rfl ?_
    refine gg_Model_row F fk_X8_7 dX8_salve_11 ?_
    refine g_iconst F dX8_salve_14 (5) (by decide) ?_
    refine g_iload_n F dX8_salve_15 rfl 1 rfl ?_
    refine g_iadd F dX8_salve_16 ?_
    refine ga_40 F (by omega) dX8_salve_17 ?_
    refine g_topi (b := z 5 (i) 0) (SB_05 hB hN.2.1.2 (by omega) (by omega)) ?_
    refine g_iconst F dX8_salve_18 (3) (by decide) ?_
    refine g_icmp_eq 30 F dX8_salve_19 (by omega) (by decide) rfl (fun c_2 => ?_) (fun c_2 => ?_)
    · skip
      refine g_bipush F dX8_salve_30 (-4) (by decide) ?_
      exact g_ireturn F hR dX8_salve_32 (pH_z (by unfold sSalve; first | (rw [if_pos (by omega)]; done) | (rw [if_neg (by omega), if_pos (by omega)]; done) | (rw [if_neg (by omega), if_neg (by omega), if_pos (by omega)]; done) | (rw [if_neg (by omega), if_neg (by omega), if_neg (by omega)]; exact (per_5 z i).symm)) (by unfold sSalve; first | (rw [if_pos (by omega)]; exact hRel) | (rw [if_neg (by omega), if_pos (by omega)]; exact hRel) | (rw [if_neg (by omega), if_neg (by omega), if_pos (by omega)]; exact hRel) | (rw [if_neg (by omega), if_neg (by omega), if_neg (by omega)]; exact Rel_kp hRel (by omega) (by unfold wOK; omega) (fun _ => by omega) (fun q => absurd q (by decide)) (salve_SB hds.1 h10.2 (by omega) (by omega) hB) (fun j hj => by rw [yU_j (by omega)]) (fun k hk => by rw [yU_k hk, kp_k _ _ hk]))) rfl)
    · skip
      refine g_aload_n F dX8_salve_22 rfl 0 rfl ?_
      refine g_iload_n F dX8_salve_23 rfl 1 rfl ?_
      refine g_callV 1 F (As := [.int (J (i))]) (st := []) (c_X8_isDone l D ad x y z (i) (hST) (hN) (hB) (by omega)) (gR_8) rfl mk_X8_219 ki_X8_isDone kc_X8_isDone (by decide +kernel) rfl (by decide) dX8_salve_24 rfl (Nat.le_of_ble_eq_true rfl) (pB_k ?_)
      refine g_ifb_eq 33 F dX8_salve_27 rfl (fun c_3 => ?_) (fun c_3 => ?_)
      · skip
        refine g_aload_n F dX8_salve_33 rfl 0 rfl ?_
        refine gg_Model_row F fk_X8_7 dX8_salve_34 ?_
        refine g_iconst F dX8_salve_37 (0) (by decide) ?_
        refine ga_40 F (by decide) dX8_salve_38 ?_
        refine g_topi (b := z 16 0 0) (h400) ?_
        refine g_bipush F dX8_salve_39 (40) (by decide) ?_
        refine g_icmp_ne 47 F dX8_salve_41 (by omega) (by decide) rfl (fun c_4 => ?_) (fun c_4 => ?_)
        · skip
          refine g_aload_n F dX8_salve_47 rfl 0 rfl ?_
          refine g_callV 0 F (As := []) (st := []) (c_X8_keepPast l D ad x y (z 16 0 0) (h400) (by omega)) (gR_8) rfl mk_X8_210 ki_X8_keepPast kc_X8_keepPast (by decide +kernel) rfl (by decide) dX8_salve_48 rfl (Nat.le_of_ble_eq_true rfl) (pV_k ?_)
          refine g_aload_n F dX8_salve_51 rfl 0 rfl ?_
          refine gg_Model_row F fk_X8_7 dX8_salve_52 ?_
          refine g_iconst F dX8_salve_55 (5) (by decide) ?_
          refine g_iload_n F dX8_salve_56 rfl 1 rfl ?_
          refine g_iadd F dX8_salve_57 ?_
          refine g_dup2 F dX8_salve_58 rfl rfl ?_
          refine ga_40 F (by omega) dX8_salve_59 ?_
          refine g_topi (b := z 5 i 0) (by rw [kp_h _ hds.1 (by omega) (by omega)]; exact SB_05 hB hN.2.1.2 (by omega) (by omega)) ?_
          refine g_iconst F dX8_salve_60 (1) (by decide) ?_
          refine g_iadd F dX8_salve_61 ?_
          refine gs_40 F (by omega) dX8_salve_62 ?_
          refine g_aload_n F dX8_salve_63 rfl 0 rfl ?_
          refine gg_Model_row F fk_X8_7 dX8_salve_64 ?_
          refine g_iconst F dX8_salve_67 (5) (by decide) ?_
          refine g_iload_n F dX8_salve_68 rfl 1 rfl ?_
          refine g_iadd F dX8_salve_69 ?_
          refine ga_40 F (by omega) dX8_salve_70 ?_
          refine g_topi (b := (z 5 i 0) + (1)) (by simp [yU]) ?_
          exact g_ireturn F hR dX8_salve_71 (pH_z (by unfold sSalve; first | (rw [if_pos (by omega)]; done) | (rw [if_neg (by omega), if_pos (by omega)]; done) | (rw [if_neg (by omega), if_neg (by omega), if_pos (by omega)]; done) | (rw [if_neg (by omega), if_neg (by omega), if_neg (by omega)]; exact (per_5 z i).symm)) (by unfold sSalve; first | (rw [if_pos (by omega)]; exact hRel) | (rw [if_neg (by omega), if_pos (by omega)]; exact hRel) | (rw [if_neg (by omega), if_neg (by omega), if_pos (by omega)]; exact hRel) | (rw [if_neg (by omega), if_neg (by omega), if_neg (by omega)]; exact Rel_kp hRel (by omega) (by unfold wOK; omega) (fun _ => by omega) (fun q => absurd q (by decide)) (salve_SB hds.1 h10.2 (by omega) (by omega) hB) (fun j hj => by rw [yU_j (by omega)]) (fun k hk => by rw [yU_k hk, kp_k _ _ hk]))) rfl)
        · skip
          refine g_bipush F dX8_salve_44 (-2) (by decide) ?_
          exact g_ireturn F hR dX8_salve_46 (pH_z (by unfold sSalve; first | (rw [if_pos (by omega)]; done) | (rw [if_neg (by omega), if_pos (by omega)]; done) | (rw [if_neg (by omega), if_neg (by omega), if_pos (by omega)]; done) | (rw [if_neg (by omega), if_neg (by omega), if_neg (by omega)]; exact (per_5 z i).symm)) (by unfold sSalve; first | (rw [if_pos (by omega)]; exact hRel) | (rw [if_neg (by omega), if_pos (by omega)]; exact hRel) | (rw [if_neg (by omega), if_neg (by omega), if_pos (by omega)]; exact hRel) | (rw [if_neg (by omega), if_neg (by omega), if_neg (by omega)]; exact Rel_kp hRel (by omega) (by unfold wOK; omega) (fun _ => by omega) (fun q => absurd q (by decide)) (salve_SB hds.1 h10.2 (by omega) (by omega) hB) (fun j hj => by rw [yU_j (by omega)]) (fun k hk => by rw [yU_k hk, kp_k _ _ hk]))) rfl)
      · skip
        refine g_bipush F dX8_salve_30 (-4) (by decide) ?_
        exact g_ireturn F hR dX8_salve_32 (pH_z (by unfold sSalve; first | (rw [if_pos (by omega)]; done) | (rw [if_neg (by omega), if_pos (by omega)]; done) | (rw [if_neg (by omega), if_neg (by omega), if_pos (by omega)]; done) | (rw [if_neg (by omega), if_neg (by omega), if_neg (by omega)]; exact (per_5 z i).symm)) (by unfold sSalve; first | (rw [if_pos (by omega)]; exact hRel) | (rw [if_neg (by omega), if_pos (by omega)]; exact hRel) | (rw [if_neg (by omega), if_neg (by omega), if_pos (by omega)]; exact hRel) | (rw [if_neg (by omega), if_neg (by omega), if_neg (by omega)]; exact Rel_kp hRel (by omega) (by unfold wOK; omega) (fun _ => by omega) (fun q => absurd q (by decide)) (salve_SB hds.1 h10.2 (by omega) (by omega) hB) (fun j hj => by rw [yU_j (by omega)]) (fun k hk => by rw [yU_k hk, kp_k _ _ hk]))) rfl)
  · skip
    refine g_iconst F dX8_salve_8 (-1) (by decide) ?_
    exact g_ireturn F hR dX8_salve_9 (pH_z (by unfold sSalve; first | (rw [if_pos (by omega)]; done) | (rw [if_neg (by omega), if_pos (by omega)]; done) | (rw [if_neg (by omega), if_neg (by omega), if_pos (by omega)]; done) | (rw [if_neg (by omega), if_neg (by omega), if_neg (by omega)]; exact (per_5 z i).symm)) (by unfold sSalve; first | (rw [if_pos (by omega)]; exact hRel) | (rw [if_neg (by omega), if_pos (by omega)]; exact hRel) | (rw [if_neg (by omega), if_neg (by omega), if_pos (by omega)]; exact hRel) | (rw [if_neg (by omega), if_neg (by omega), if_neg (by omega)]; exact Rel_kp hRel (by omega) (by unfold wOK; omega) (fun _ => by omega) (fun q => absurd q (by decide)) (salve_SB hds.1 h10.2 (by omega) (by omega) hB) (fun j hj => by rw [yU_j (by omega)]) (fun k hk => by rw [yU_k hk, kp_k _ _ hk]))) rfl)

set_option maxRecDepth 20000 in
theorem c_X8_trial (l : Launch) (D : gD) (ad : gA) (x : gX) (y : gY) (z : gX) (i : Int) (hi : i32 i) (hRel : Rel z y) : gC l D ad 7 yX8_trial cX8_trial 3 (some .int) [.ref (ad 8 (0)), .int (J (i))] x y (pH (.int (J ((sTrial z i).1))) (x) (fun w9 => Rel (sTrial z i).2 w9)) := by
  refine g_met RX8 rfl (by decide +kernel) [(0, .ref (ad 8 (0))), (1, .int (J (i)))] rfl (Nat.le_of_ble_eq_true rfl) (fun Θ F hR => ?_)
  have hN := hRel.1.1
  have hRW := hRel.1.2.1
  have hDD := hRel.1.2.2.1
  have hST := hRel.2.1
  have hB := Rel_SB hRel
  have h10 := hN.2.1
  have h15 := hN.2.2.1
  have hds := hDD.1.1
  have h400 : y 40 0 = z 16 0 0 := by have q := (hRel.2.2.1 0 (by decide) (by decide)).1; exact q
  refine g_aload_n F dX8_trial_0 rfl 0 rfl ?_
  refine g_iload_n F dX8_trial_1 rfl 1 rfl ?_
  refine g_callV 1 F (As := [.int (J (i))]) (st := []) (c_X8_isMan l D ad x y z (i) (hST) (hN) (by omega)) (gR_8) rfl mk_X8_191 ki_X8_isMan kc_X8_isMan (by decide +kernel) rfl (by decide) dX8_trial_2 rfl (Nat.le_of_ble_eq_true rfl) (pB_k ?_)
  refine g_ifb_ne 10 F dX8_trial_5 rfl (fun c_1 => ?_) (fun c_1 => ?_)
  · skip
    have hm := hN.2.2.2 i (by omega) (by omega)
    refine g_aload_n F dX8_trial_10 rfl 0 rfl ?_
    refine g_iload_n F dX8_trial_11 rfl 1 rfl ?_
    refine g_callV 1 F (As := [.int (J (i))]) (st := []) (c_X8_isDone l D ad x y z (i) (hST) (hN) (hB) (by omega)) (gR_8) rfl mk_X8_219 ki_X8_isDone kc_X8_isDone (by decide +kernel) rfl (by decide) dX8_trial_12 rfl (Nat.le_of_ble_eq_true rfl) (pB_k ?_)
    refine g_ifb_eq 21 F dX8_trial_15 rfl (fun c_2 => ?_) (fun c_2 => ?_)
    · skip
      refine g_aload_n F dX8_trial_21 rfl 0 rfl ?_
      refine gg_Model_row F fk_X8_7 dX8_trial_22 ?_
      refine g_iconst F dX8_trial_25 (0) (by decide) ?_
      refine ga_40 F (by decide) dX8_trial_26 ?_
      refine g_topi (b := z 16 0 0) (h400) ?_
      refine g_bipush F dX8_trial_27 (40) (by decide) ?_
      refine g_icmp_ne 35 F dX8_trial_29 (by omega) (by decide) rfl (fun c_3 => ?_) (fun c_3 => ?_)
      · skip
        have h7 := INV_UW hRel.1 i (by omega) (by omega) (by omega)
        have hwo : wOK z 2 i := by unfold wOK; omega
        have hv : 0 ≤ tvU z i ∧ tvU z i ≤ 2 := vU_r z i (z 15 0 0)
        refine g_aload_n F dX8_trial_35 rfl 0 rfl ?_
        refine g_callV 0 F (As := []) (st := []) (c_X8_keepPast l D ad x y (z 16 0 0) (h400) (by omega)) (gR_8) rfl mk_X8_210 ki_X8_keepPast kc_X8_keepPast (by decide +kernel) rfl (by decide) dX8_trial_36 rfl (Nat.le_of_ble_eq_true rfl) (pV_k ?_)
        refine g_aload_n F dX8_trial_39 rfl 0 rfl ?_
        refine g_iconst F dX8_trial_40 (0) (by decide) ?_
        refine g_iload_n F dX8_trial_41 rfl 1 rfl ?_
        refine g_callV 2 F (As := [.int (J (0)), .int (J (i))]) (st := []) (c_X8_tryAt l D ad x (kpY y (z 16 0 0)) z (0) (i) (kp_ST hST) (hN) (kp_SB hds.1 hB) (by omega) (by omega) (by omega) (by omega)) (gR_8) rfl mk_X8_229 ki_X8_tryAt kc_X8_tryAt (by decide +kernel) rfl (by decide) dX8_trial_42 rfl (Nat.le_of_ble_eq_true rfl) (pH_k (fun v_42 hG_42 => ?_))
        have hRp : Rel (perM z 2 i) v_42 := Rel_kp hRel (by omega) hwo (fun q => absurd q (by decide)) (fun _ => by omega) hG_42.2.2 (fun j hj => hG_42.2.1 j (by omega)) (fun k hk => by rw [hG_42.1 k hk, kp_k _ _ hk])
        have hSTu : ST z v_42 := by (have q := hG_42.1); unfold ST; rw [q 1 (by decide), q 2 (by decide), q 3 (by decide), q 4 (by decide), q 5 (by decide), q 41 (by decide), q 42 (by decide), q 43 (by decide), q 44 (by decide)]; exact kp_ST hST
        refine g_istore_n F [(2, .int (J (tvU z (i)))), (0, .ref (ad 8 (0))), (1, .int (J (i)))] dX8_trial_45 rfl (by decide) rfl ?_
        refine g_aload_n F dX8_trial_46 rfl 1 rfl ?_
        refine g_aload_n F dX8_trial_47 rfl 1 rfl ?_
        refine g_iload_n F dX8_trial_48 rfl 2 rfl ?_
        refine g_iload_n F dX8_trial_49 rfl 0 rfl ?_
        refine g_callV 2 F (As := [.int (J (i)), .int (J (tvU z (i)))]) (st := [.ref (ad 8 (0))]) (c_X8_isWrong l D ad x v_42 z (i) (tvU z (i)) (hSTu) (hN) (by omega) (by omega)) (gR_8) rfl mk_X8_226 ki_X8_isWrong kc_X8_isWrong (by decide +kernel) rfl (by decide) dX8_trial_50 rfl (Nat.le_of_ble_eq_true rfl) (pB_k ?_)
        refine g_ifb_eq 60 F dX8_trial_53 rfl (fun c_4 => ?_) (fun c_4 => ?_)
        · skip
          refine g_iconst F dX8_trial_60 (0) (by decide) ?_
          refine gp_Model_asked F fk_X8_69 dX8_trial_61 ?_
          refine g_iload_n F dX8_trial_64 rfl 0 rfl ?_
          exact g_ireturn F hR dX8_trial_65 (pH_z (by unfold sTrial; first | (rw [if_pos (by omega)]; done) | (rw [if_neg (by omega), if_pos (by omega)]; done) | (rw [if_neg (by omega), if_neg (by omega), if_pos (by omega)]; done) | (rw [if_neg (by omega), if_neg (by omega), if_neg (by omega)]; exact (per_6 z hwo).symm)) (by unfold sTrial; first | (rw [if_pos (by omega)]; exact hRel) | (rw [if_neg (by omega), if_pos (by omega)]; exact hRel) | (rw [if_neg (by omega), if_neg (by omega), if_pos (by omega)]; exact hRel) | (rw [if_neg (by omega), if_neg (by omega), if_neg (by omega)]; rw [per_7 z hwo]; first | (rw [if_pos (show sWr (z 2 i 0) (tvU z i) by assumption), if_neg (by decide)]; exact Rel_tell hRp _) | (rw [if_neg (show ¬ sWr (z 2 i 0) (tvU z i) by assumption), if_pos rfl]; exact Rel_tell hRp _))) rfl)
        · skip
          refine g_iconst F dX8_trial_56 (1) (by decide) ?_
          refine g_goto F 61 dX8_trial_57 rfl ?_
          refine gp_Model_asked F fk_X8_69 dX8_trial_61 ?_
          refine g_iload_n F dX8_trial_64 rfl 0 rfl ?_
          exact g_ireturn F hR dX8_trial_65 (pH_z (by unfold sTrial; first | (rw [if_pos (by omega)]; done) | (rw [if_neg (by omega), if_pos (by omega)]; done) | (rw [if_neg (by omega), if_neg (by omega), if_pos (by omega)]; done) | (rw [if_neg (by omega), if_neg (by omega), if_neg (by omega)]; exact (per_6 z hwo).symm)) (by unfold sTrial; first | (rw [if_pos (by omega)]; exact hRel) | (rw [if_neg (by omega), if_pos (by omega)]; exact hRel) | (rw [if_neg (by omega), if_neg (by omega), if_pos (by omega)]; exact hRel) | (rw [if_neg (by omega), if_neg (by omega), if_neg (by omega)]; rw [per_7 z hwo]; first | (rw [if_pos (show sWr (z 2 i 0) (tvU z i) by assumption), if_neg (by decide)]; exact Rel_tell hRp _) | (rw [if_neg (show ¬ sWr (z 2 i 0) (tvU z i) by assumption), if_pos rfl]; exact Rel_tell hRp _))) rfl)
      · skip
        refine g_bipush F dX8_trial_32 (-2) (by decide) ?_
        exact g_ireturn F hR dX8_trial_34 (pH_z (by unfold sTrial; first | (rw [if_pos (by omega)]; done) | (rw [if_neg (by omega), if_pos (by omega)]; done) | (rw [if_neg (by omega), if_neg (by omega), if_pos (by omega)]; done) | (rw [if_neg (by omega), if_neg (by omega), if_neg (by omega)]; exact (per_6 z hwo).symm)) (by unfold sTrial; first | (rw [if_pos (by omega)]; exact hRel) | (rw [if_neg (by omega), if_pos (by omega)]; exact hRel) | (rw [if_neg (by omega), if_neg (by omega), if_pos (by omega)]; exact hRel) | (rw [if_neg (by omega), if_neg (by omega), if_neg (by omega)]; rw [per_7 z hwo]; first | (rw [if_pos (show sWr (z 2 i 0) (tvU z i) by assumption), if_neg (by decide)]; exact Rel_tell hRp _) | (rw [if_neg (show ¬ sWr (z 2 i 0) (tvU z i) by assumption), if_pos rfl]; exact Rel_tell hRp _))) rfl)
    · skip
      refine g_bipush F dX8_trial_18 (-4) (by decide) ?_
      exact g_ireturn F hR dX8_trial_20 (pH_z (by unfold sTrial; first | (rw [if_pos (by omega)]; done) | (rw [if_neg (by omega), if_pos (by omega)]; done) | (rw [if_neg (by omega), if_neg (by omega), if_pos (by omega)]; done) | (rw [if_neg (by omega), if_neg (by omega), if_neg (by omega)]; exact (per_6 z hwo).symm)) (by unfold sTrial; first | (rw [if_pos (by omega)]; exact hRel) | (rw [if_neg (by omega), if_pos (by omega)]; exact hRel) | (rw [if_neg (by omega), if_neg (by omega), if_pos (by omega)]; exact hRel) | (rw [if_neg (by omega), if_neg (by omega), if_neg (by omega)]; rw [per_7 z hwo]; first | (rw [if_pos (show sWr (z 2 i 0) (tvU z i) by assumption), if_neg (by decide)]; exact Rel_tell hRp _) | (rw [if_neg (show ¬ sWr (z 2 i 0) (tvU z i) by assumption), if_pos rfl]; exact Rel_tell hRp _))) rfl)
  · skip
    refine g_iconst F dX8_trial_8 (-1) (by decide) ?_
    exact g_ireturn F hR dX8_trial_9 (pH_z (by unfold sTrial; first | (rw [if_pos (by omega)]; done) | (rw [if_neg (by omega), if_pos (by omega)]; done) | (rw [if_neg (by omega), if_neg (by omega), if_pos (by omega)]; done) | (rw [if_neg (by omega), if_neg (by omega), if_neg (by omega)]; exact (per_6 z hwo).symm)) (by unfold sTrial; first | (rw [if_pos (by omega)]; exact hRel) | (rw [if_neg (by omega), if_pos (by omega)]; exact hRel) | (rw [if_neg (by omega), if_neg (by omega), if_pos (by omega)]; exact hRel) | (rw [if_neg (by omega), if_neg (by omega), if_neg (by omega)]; rw [per_7 z hwo]; first | (rw [if_pos (show sWr (z 2 i 0) (tvU z i) by assumption), if_neg (by decide)]; exact Rel_tell hRp _) | (rw [if_neg (show ¬ sWr (z 2 i 0) (tvU z i) by assumption), if_pos rfl]; exact Rel_tell hRp _))) rfl)
