theorem mRf_a {x : gX} {n R r : Int} (h : ¬ (0 ≤ r ∧ r < n)) : mRf x n R r = (-1, x) := by unfold mRf; rw [if_pos h]
theorem mRf_b {x : gX} {n R r : Int} (h : 0 ≤ r ∧ r < n) (h2 : x 17 R 0 = -1) : mRf x n R r = (-3, fnd x 1) := by unfold mRf; rw [if_neg (fun q => q h), if_pos h2]
theorem mRf_c {x : gX} {n R r : Int} (h : 0 ≤ r ∧ r < n) (h2 : x 17 R 0 ≠ -1) : mRf x n R r = (0, x) := by unfold mRf; rw [if_neg (fun q => q h), if_neg h2]
theorem pRf_a {x : gX} {n R r i : Int} (h : ¬ (0 ≤ r ∧ r < n)) : pRf x n R r i = (-1, x) := by unfold pRf; rw [mRf_a h]; rfl
theorem pRf_b {x : gX} {n R r i : Int} (h : 0 ≤ r ∧ r < n) (h2 : x 17 R 0 = -1) : pRf x n R r i = (-3, fnd x 1) := by unfold pRf; rw [mRf_b h h2]; rfl
theorem pRf_c {x : gX} {n R r i : Int} (h : 0 ≤ r ∧ r < n) (h2 : x 17 R 0 ≠ -1) (h3 : ¬ (0 ≤ i ∧ i < x 17 R 0)) : pRf x n R r i = (-3, fnd x 2) := by
  unfold pRf; rw [mRf_c h h2]
  show (if (0 : Int) ≠ 0 then _ else _) = _
  rw [if_neg (by decide), if_neg h3]
theorem pRf_d {x : gX} {n R r i : Int} (h : 0 ≤ r ∧ r < n) (h2 : x 17 R 0 ≠ -1) (h3 : 0 ≤ i ∧ i < x 17 R 0) : pRf x n R r i = (0, x) := by
  unfold pRf; rw [mRf_c h h2]
  show (if (0 : Int) ≠ 0 then _ else _) = _
  rw [if_neg (by decide), if_pos h3]
theorem Rel_rows {a b : gX} {y y' : gY} (h : Rel a y) (e : ∀ k : Int, k ≠ 17 → k ≠ 20 → b k = a k) (ey : ∀ k : Int, k ≤ 9 ∨ (40 ≤ k ∧ k ≤ 44) ∨ k = 49 → y' k = y k) (hW : RWI b) (hr : RWR b y') : Rel b y' := by
  refine Rel_k h (fun k _ _ h1 _ _ h2 _ => e k h1 h2) (fun k c => ey k (by omega)) hW hr ?_
  obtain ⟨_, _, _, _, t⟩ := h
  unfold TLR
  rw [ey 6 (by decide), ey 7 (by decide), ey 8 (by decide), ey 9 (by decide), ey 49 (by decide), e 19 (by decide) (by decide), e 8 (by decide) (by decide), e 9 (by decide) (by decide), e 18 (by decide) (by decide), e 26 (by decide) (by decide)]
  exact t
def zrM (y : gY) (k0 B v m : Int) : gY := fun k j => if k = k0 ∧ B ≤ j ∧ j < B + m then v else y k j
theorem zrM_0 (y : gY) (k0 B v : Int) : zrM y k0 B v 0 = y := by funext k j; unfold zrM; rw [if_neg (by omega)]
theorem zrM_s (y : gY) (k0 B v : Int) {m : Int} (hm : 0 ≤ m) : yU (zrM y k0 B v m) k0 (B + m) v = zrM y k0 B v (m + 1) := by
  funext k j
  unfold yU zrM
  by_cases h1 : k = k0 ∧ j = B + m
  · rw [if_pos h1, if_pos ⟨h1.1, by omega, by omega⟩]
  · rw [if_neg h1]
    by_cases h2 : k = k0 ∧ B ≤ j ∧ j < B + m
    · rw [if_pos h2, if_pos ⟨h2.1, h2.2.1, by omega⟩]
    · rw [if_neg h2, if_neg (by omega)]
theorem RWI_lay {a : gX} (h : RWI a) {R n v : Int} (hn : 0 ≤ n ∧ n ≤ (if R < 6 then 40 else 60)) (hv : -128 ≤ v ∧ v ≤ 127) : RWI (xU (flM a R v n) 17 R 0 n) := fun r r0 r1 => by
  obtain ⟨h1, h2, h3⟩ := h r r0 r1
  refine ⟨?_, fun j => ?_, fun h6 j => ?_⟩
  · rw [xU_at]
    split
    · rename_i q; rw [q.1]; omega
    · rw [flM_k _ _ _ _ (by decide)]; exact h1
  · rw [xU_k (by decide)]
    unfold flM
    split
    · omega
    · exact h2 j
  · rw [xU_k (by decide)]
    unfold flM
    split
    · omega
    · exact h3 h6 j
theorem Rel_row {a : gX} {y : gY} (h : Rel a y) {r n : Int} (hr : 0 ≤ r ∧ r < 6) (hn : 0 ≤ n ∧ n ≤ 40) : Rel (xU (flM a r 0 n) 17 r 0 n) (zrM (yU y 45 r n) 46 (40 * r) 0 40) := by
  have hW := h.1.2.1
  obtain ⟨_, _, _, ⟨r1, r2⟩, _⟩ := id h
  refine Rel_rows h (fun k h1 h2 => by rw [xU_k h1, flM_k _ _ _ _ h2]) (fun k c => by funext j; unfold zrM; rw [if_neg (by omega), yU_k (by omega)]) (RWI_lay hW (by rw [if_pos hr.2]; exact hn) (by decide)) ⟨fun R R0 R1 => ?_, fun t t0 t1 => ?_⟩
  · have hsz := (hW R R0 (by omega)).1
    rw [if_pos R1] at hsz
    have e45 : zrM (yU y 45 r n) 46 (40 * r) 0 40 45 R = if R = r then n else y 45 R := by unfold zrM; rw [if_neg (by omega), yU_at]
    have e17 : xU (flM a r 0 n) 17 r 0 n 17 R 0 = if R = r then n else a 17 R 0 := by
      rw [xU_at]
      by_cases q : R = r
      · rw [if_pos ⟨q, rfl⟩, if_pos q]
      · rw [if_neg (fun w => q w.1), if_neg q, flM_k _ _ _ _ (by decide)]
    rw [e45, e17]
    by_cases q : R = r
    · rw [if_pos q, if_pos q]
      refine ⟨rfl, fun j j0 j1 => ?_⟩
      rw [q]
      rw [xU_k (by decide)]
      unfold zrM flM
      rw [if_pos ⟨rfl, by omega, by omega⟩, if_pos ⟨rfl, rfl, j0, j1⟩]
    · rw [if_neg q, if_neg q]
      refine ⟨(r1 R R0 R1).1, fun j j0 j1 => ?_⟩
      rw [xU_k (by decide)]
      unfold zrM flM
      rw [if_neg (by omega), if_neg (by omega), yU_k (by decide)]
      exact (r1 R R0 R1).2 j j0 j1
  · have e47 : zrM (yU y 45 r n) 46 (40 * r) 0 40 47 t = y 47 t := by unfold zrM; rw [if_neg (by omega), yU_k (by decide)]
    have e17 : xU (flM a r 0 n) 17 r 0 n 17 (6 + t) 0 = a 17 (6 + t) 0 := by rw [xU_at, if_neg (by omega), flM_k _ _ _ _ (by decide)]
    rw [e47, e17]
    refine ⟨(r2 t t0 t1).1, fun j j0 j1 => ?_⟩
    rw [xU_k (by decide)]
    unfold zrM flM
    rw [if_neg (by omega), if_neg (by omega), yU_k (by decide)]
    exact (r2 t t0 t1).2 j j0 j1
theorem Rel_text {a : gX} {y : gY} (h : Rel a y) {t n : Int} (hr : 0 ≤ t ∧ t < 4) (hn : 0 ≤ n ∧ n ≤ 60) : Rel (xU (flM a (6 + t) 32 n) 17 (6 + t) 0 n) (zrM (yU y 47 t n) 48 (60 * t) 32 60) := by
  have hW := h.1.2.1
  obtain ⟨_, _, _, ⟨r1, r2⟩, _⟩ := id h
  refine Rel_rows h (fun k h1 h2 => by rw [xU_k h1, flM_k _ _ _ _ h2]) (fun k c => by funext j; unfold zrM; rw [if_neg (by omega), yU_k (by omega)]) (RWI_lay hW (by rw [if_neg (by omega)]; exact hn) (by decide)) ⟨fun R R0 R1 => ?_, fun u u0 u1 => ?_⟩
  · have e45 : zrM (yU y 47 t n) 48 (60 * t) 32 60 45 R = y 45 R := by unfold zrM; rw [if_neg (by omega), yU_k (by decide)]
    have e17 : xU (flM a (6 + t) 32 n) 17 (6 + t) 0 n 17 R 0 = a 17 R 0 := by rw [xU_at, if_neg (by omega), flM_k _ _ _ _ (by decide)]
    rw [e45, e17]
    refine ⟨(r1 R R0 R1).1, fun j j0 j1 => ?_⟩
    rw [xU_k (by decide)]
    unfold zrM flM
    rw [if_neg (by omega), if_neg (by omega), yU_k (by decide)]
    exact (r1 R R0 R1).2 j j0 j1
  · have hsz := (hW (6 + u) (by omega) (by omega)).1
    rw [if_neg (by omega)] at hsz
    have e47 : zrM (yU y 47 t n) 48 (60 * t) 32 60 47 u = if u = t then n else y 47 u := by unfold zrM; rw [if_neg (by omega), yU_at]
    have e17 : xU (flM a (6 + t) 32 n) 17 (6 + t) 0 n 17 (6 + u) 0 = if u = t then n else a 17 (6 + u) 0 := by
      rw [xU_at]
      by_cases q : u = t
      · rw [if_pos ⟨by omega, rfl⟩, if_pos q]
      · rw [if_neg (by omega), if_neg q, flM_k _ _ _ _ (by decide)]
    rw [e47, e17]
    by_cases q : u = t
    · rw [if_pos q, if_pos q]
      refine ⟨rfl, fun j j0 j1 => ?_⟩
      rw [q]
      rw [xU_k (by decide)]
      unfold zrM flM
      rw [if_pos ⟨rfl, by omega, by omega⟩, if_pos ⟨rfl, rfl, j0, j1⟩]
    · rw [if_neg q, if_neg q]
      refine ⟨(r2 u u0 u1).1, fun j j0 j1 => ?_⟩
      rw [xU_k (by decide)]
      unfold zrM flM
      rw [if_neg (by omega), if_neg (by omega), yU_k (by decide)]
      exact (r2 u u0 u1).2 j j0 j1
theorem RWI_at {a : gX} (h : RWI a) {R i v : Int} (hv : i32 v) (hb : 6 ≤ R → -128 ≤ v ∧ v ≤ 127) : RWI (xU a 20 R i v) := fun r r0 r1 => by
  obtain ⟨h1, h2, h3⟩ := h r r0 r1
  refine ⟨by rw [xU_k (by decide)]; exact h1, fun j => ?_, fun h6 j => ?_⟩
  · rw [xU_at]; split
    · exact hv
    · exact h2 j
  · rw [xU_at]; split
    · rename_i q; exact hb (by omega)
    · exact h3 h6 j
theorem Rel_lay0 {a : gX} {y : gY} (h : Rel a y) {r i v : Int} (hr : 0 ≤ r ∧ r < 6) (hi : 0 ≤ i ∧ i < a 17 r 0) (hv : i32 v) : Rel (xU a 20 r i v) (yU y 46 (40 * r + i) v) := by
  have hW := h.1.2.1
  obtain ⟨_, _, _, ⟨r1, r2⟩, _⟩ := id h
  have hsr := (hW r hr.1 (by omega)).1
  rw [if_pos hr.2] at hsr
  refine Rel_rows h (fun k h1 h2 => xU_k h2) (fun k c => yU_k (by omega)) (RWI_at hW hv (by omega)) ⟨fun R R0 R1 => ?_, fun t t0 t1 => ?_⟩
  · have hsz := (hW R R0 (by omega)).1
    rw [if_pos R1] at hsz
    rw [yU_k (k1 := 45) (by decide), xU_k (k1 := 17) (by decide)]
    refine ⟨(r1 R R0 R1).1, fun j j0 j1 => ?_⟩
    rw [yU_at, xU_at]
    by_cases q : R = r ∧ j = i
    · rw [if_pos (by omega), if_pos q]
    · rw [if_neg (by omega), if_neg q]; exact (r1 R R0 R1).2 j j0 j1
  · rw [yU_k (k1 := 47) (by decide), yU_k (k1 := 48) (by decide), xU_k (k1 := 17) (by decide)]
    refine ⟨(r2 t t0 t1).1, fun j j0 j1 => ?_⟩
    rw [xU_at, if_neg (by omega)]
    exact (r2 t t0 t1).2 j j0 j1
theorem Rel_put {a : gX} {y : gY} (h : Rel a y) {t i v : Int} (hr : 0 ≤ t ∧ t < 4) (hi : 0 ≤ i ∧ i < a 17 (6 + t) 0) (hv : -128 ≤ v ∧ v ≤ 127) : Rel (xU a 20 (6 + t) i v) (yU y 48 (60 * t + i) v) := by
  have hW := h.1.2.1
  obtain ⟨_, _, _, ⟨r1, r2⟩, _⟩ := id h
  have hsr := (hW (6 + t) (by omega) (by omega)).1
  rw [if_neg (by omega)] at hsr
  refine Rel_rows h (fun k h1 h2 => xU_k h2) (fun k c => yU_k (by omega)) (RWI_at hW ⟨by omega, by omega⟩ (fun _ => hv)) ⟨fun R R0 R1 => ?_, fun u u0 u1 => ?_⟩
  · rw [yU_k (k1 := 45) (by decide), yU_k (k1 := 46) (by decide), xU_k (k1 := 17) (by decide)]
    refine ⟨(r1 R R0 R1).1, fun j j0 j1 => ?_⟩
    rw [xU_at, if_neg (by omega)]
    exact (r1 R R0 R1).2 j j0 j1
  · have hsz := (hW (6 + u) (by omega) (by omega)).1
    rw [if_neg (by omega)] at hsz
    rw [yU_k (k1 := 47) (by decide), xU_k (k1 := 17) (by decide)]
    refine ⟨(r2 u u0 u1).1, fun j j0 j1 => ?_⟩
    rw [yU_at, xU_at]
    by_cases q : u = t ∧ j = i
    · rw [if_pos (by omega), if_pos (by omega)]
    · rw [if_neg (by omega), if_neg (by omega)]; exact (r2 u u0 u1).2 j j0 j1
theorem Rel_tear {a : gX} {y : gY} (h : Rel a y) {r : Int} (hr : 0 ≤ r ∧ r < 6) : Rel (xU a 17 r 0 (-1)) (yU y 45 r (-1)) := by
  have hW := h.1.2.1
  obtain ⟨_, _, _, ⟨r1, r2⟩, _⟩ := id h
  refine Rel_rows h (fun k h1 h2 => xU_k h1) (fun k c => yU_k (by omega)) (fun R R0 R1 => ?_) ⟨fun R R0 R1 => ?_, fun t t0 t1 => ?_⟩
  · obtain ⟨h1, h2, h3⟩ := hW R R0 R1
    refine ⟨?_, h2, h3⟩
    rw [xU_at]; split
    · refine ⟨by omega, ?_⟩; split <;> omega
    · exact h1
  · rw [yU_at, xU_at]
    by_cases q : R = r
    · rw [if_pos q, if_pos ⟨q, rfl⟩]; exact ⟨rfl, fun j j0 j1 => by omega⟩
    · rw [if_neg q, if_neg (fun w => q w.1)]; exact r1 R R0 R1
  · rw [xU_at, if_neg (by omega)]; exact r2 t t0 t1
theorem xU_cm {x : gX} {k i j v k' i' j' v' : Int} (h : k ≠ k') : xU (xU x k i j v) k' i' j' v' = xU (xU x k' i' j' v') k i j v := by
  funext a b c
  unfold xU
  by_cases h1 : a = k' ∧ b = i' ∧ c = j'
  · rw [if_pos h1, if_neg (by omega), if_pos h1]
  · rw [if_neg h1]
    by_cases h2 : a = k ∧ b = i ∧ c = j
    · rw [if_pos h2, if_pos h2]
    · rw [if_neg h2, if_neg h2, if_neg h1]
theorem Rel_lay {a : gX} {y : gY} (h : Rel a y) {r i v w : Int} (hr : 0 ≤ r ∧ r < 6) (hi : 0 ≤ i ∧ i < a 17 r 0) (hv : i32 v) : Rel (xU (xU a 19 0 0 w) 20 r i v) (yU (yU y 46 (40 * r + i) v) 6 0 w) := by
  rw [xU_cm (by decide)]
  exact Rel_tell (Rel_lay0 h hr hi hv) w
def cpY (y : gY) (A B lo hi : Int) : gY := fun k q => if k = 46 ∧ B + lo ≤ q ∧ q < B + hi then y 46 (q - B + A) else y k q
theorem cpY_0 (y : gY) (A B lo : Int) : cpY y A B lo lo = y := by funext k q; unfold cpY; rw [if_neg (by omega)]
theorem cpY_f (y : gY) {A B lo hi : Int} (h : lo ≤ hi) : yU (cpY y A B lo hi) 46 (B + hi) (y 46 (A + hi)) = cpY y A B lo (hi + 1) := by
  funext k q
  unfold yU cpY
  by_cases h1 : k = 46 ∧ q = B + hi
  · rw [if_pos h1, if_pos ⟨h1.1, by omega, by omega⟩, h1.2]; congr 1; omega
  · rw [if_neg h1]
    by_cases h2 : k = 46 ∧ B + lo ≤ q ∧ q < B + hi
    · rw [if_pos h2, if_pos ⟨h2.1, h2.2.1, by omega⟩]
    · rw [if_neg h2, if_neg (by omega)]
theorem cpY_b (y : gY) {A B lo hi : Int} (h : lo ≤ hi) : yU (cpY y A B lo hi) 46 (B + (lo - 1)) (y 46 (A + (lo - 1))) = cpY y A B (lo - 1) hi := by
  funext k q
  unfold yU cpY
  by_cases h1 : k = 46 ∧ q = B + (lo - 1)
  · rw [if_pos h1, if_pos ⟨h1.1, by omega, by omega⟩, h1.2]; congr 1; omega
  · rw [if_neg h1]
    by_cases h2 : k = 46 ∧ B + lo ≤ q ∧ q < B + hi
    · rw [if_pos h2, if_pos ⟨h2.1, by omega, h2.2.2⟩]
    · rw [if_neg h2, if_neg (by omega)]
theorem cpY_at (y : gY) {A B lo hi q : Int} (h : ¬ (B + lo ≤ q ∧ q < B + hi)) : cpY y A B lo hi 46 q = y 46 q := by unfold cpY; rw [if_neg (fun w => h w.2)]
theorem cp_0 {y : gY} {A B n i j : Int} : cpY y A B (if i < j then n - 0 else 0) (if i < j then n else 0) = y := by
  by_cases c : i < j
  · rw [if_pos c, if_pos c, Int.sub_zero, cpY_0]
  · rw [if_neg c, if_neg c, cpY_0]
theorem cp_b {y : gY} {A B n q i j : Int} (hc : i < j) (h : 0 ≤ q) : yU (cpY y A B (if i < j then n - q else 0) (if i < j then n else q)) 46 (B + (n - 1 - q)) (y 46 (A + (n - 1 - q))) = cpY y A B (if i < j then n - (q + 1) else 0) (if i < j then n else q + 1) := by
  rw [if_pos hc, if_pos hc, if_pos hc, if_pos hc]
  have e := cpY_b y (A := A) (B := B) (lo := n - q) (hi := n) (by omega)
  rw [show n - q - 1 = n - 1 - q by omega] at e
  rw [show n - (q + 1) = n - 1 - q by omega]
  exact e
theorem cp_f {y : gY} {A B n q i j : Int} (hc : ¬ i < j) (h : 0 ≤ q) : yU (cpY y A B (if i < j then n - q else 0) (if i < j then n else q)) 46 (B + q) (y 46 (A + q)) = cpY y A B (if i < j then n - (q + 1) else 0) (if i < j then n else q + 1) := by
  rw [if_neg hc, if_neg hc, if_neg hc, if_neg hc]
  exact cpY_f y h
theorem Rel_copy {a : gX} {y : gY} (h : Rel a y) {r i t j n : Int} (hr : 0 ≤ r ∧ r < 6) (ht : 0 ≤ t ∧ t < 6) (hn : 0 ≤ n) (h1 : stP a r i n) (h2 : stP a t j n) : Rel (xC a 20 t j n (fun q => a 20 r (i + q))) (cpY y (40 * r + i) (40 * t + j) 0 n) := by
  have hW := h.1.2.1
  obtain ⟨_, _, _, ⟨r1, r2⟩, _⟩ := id h
  have e1 : ∀ k : Int, k ≠ 20 → xC a 20 t j n (fun q => a 20 r (i + q)) k = a k := fun k hk => by funext p q; unfold xC; rw [if_neg (fun w => hk w.1)]
  have hst := (hW t ht.1 (by omega)).1
  rw [if_pos ht.2] at hst
  refine Rel_rows h (fun k _ hk => e1 k hk) (fun k c => by funext q; unfold cpY; rw [if_neg (by omega)]) (fun R R0 R1 => ?_) ⟨fun R R0 R1 => ?_, fun u u0 u1 => ?_⟩
  · obtain ⟨q1, q2, q3⟩ := hW R R0 R1
    refine ⟨by rw [e1 17 (by decide)]; exact q1, fun q => ?_, fun h6 q => ?_⟩
    · unfold xC; split
      · exact (hW r hr.1 (by omega)).2.1 _
      · exact q2 q
    · unfold xC
      rw [if_neg (by omega)]; exact q3 h6 q
  · have hsz := (hW R R0 (by omega)).1
    rw [if_pos R1] at hsz
    have e45 : cpY y (40 * r + i) (40 * t + j) 0 n 45 R = y 45 R := by unfold cpY; rw [if_neg (by omega)]
    rw [e45, e1 17 (by decide)]
    refine ⟨(r1 R R0 R1).1, fun q q0 q1 => ?_⟩
    unfold cpY xC
    by_cases c : R = t ∧ j ≤ q ∧ q < j + n
    · rw [if_pos (by omega), if_pos ⟨rfl, c.1, c.2⟩, c.1]
      show y 46 _ = a 20 r (i + (q - j))
      rw [← (r1 r hr.1 hr.2).2 (i + (q - j)) (by omega) (by omega)]
      congr 1; omega
    · rw [if_neg (by omega), if_neg (fun w => c ⟨w.2.1, w.2.2⟩)]
      exact (r1 R R0 R1).2 q q0 q1
  · have e47 : cpY y (40 * r + i) (40 * t + j) 0 n 47 u = y 47 u := by unfold cpY; rw [if_neg (by omega)]
    rw [e47, e1 17 (by decide)]
    refine ⟨(r2 u u0 u1).1, fun q q0 q1 => ?_⟩
    unfold cpY xC
    rw [if_neg (by omega), if_neg (by omega)]
    exact (r2 u u0 u1).2 q q0 q1
set_option maxRecDepth 20000 in
theorem c_X8_refused (l : Launch) (D : gD) (ad : gA) (x : gX) (y : gY) (z : gX) (r i : Int) (hr : i32 r) (hi : i32 i) (hRel : Rel z y) : gC l D ad 2 yX8_refused cX8_refused 3 (some .int) [.ref (ad 8 (0)), .int (J (r)), .int (J (i))] x y (pH (.int (J ((pRf z 6 r r i).1))) (x) (fun w => Rel (pRf z 6 r r i).2 w)) := by
  refine g_met RX8 rfl (by decide +kernel) [(0, .ref (ad 8 (0))), (1, .int (J (r))), (2, .int (J (i)))] rfl (Nat.le_of_ble_eq_true rfl) (fun Θ F hR => ?_)
  have hN := hRel.1.1
  have hRW := hRel.1.2.1
  have hDD := hRel.1.2.2.1
  have hST := hRel.2.1
  have hB := Rel_SB hRel
  have h10 := hN.2.1
  have h15 := hN.2.2.1
  refine g_iload_n F dX8_refused_0 rfl 1 rfl ?_
  refine g_callS 1 F (As := [.int (J (r))]) (st := []) (c_X8_isRow l D ad x y (r) (by omega)) rfl mk_X8_80 ki_X8_isRow kc_X8_isRow (by decide +kernel) rfl (by decide) dX8_refused_1 rfl (Nat.le_of_ble_eq_true rfl) (pB_k ?_)
  refine g_ifb_ne 11 F dX8_refused_4 rfl (fun c_1 => ?_) (fun c_1 => ?_)
  · skip
    have hw := hRW (r) (by omega) (by omega)
    have hw2 : -1 ≤ z 17 (r) 0 ∧ z 17 (r) 0 ≤ 60 := by have := hw.1; split at this <;> omega
    refine g_aload_n F dX8_refused_11 rfl 0 rfl ?_
    refine gg_Model_sizes F fk_X8_25 dX8_refused_12 ?_
    refine g_iload_n F dX8_refused_15 rfl 1 rfl ?_
    refine ga_45 F (by omega) dX8_refused_16 ?_
    refine g_topi (b := z 17 (r) 0) ((hRel.2.2.2.1.1 _ (by omega) (by omega)).1) ?_
    refine g_if_ge 28 F dX8_refused_17 (by omega) rfl (fun c_2 => ?_) (fun c_2 => ?_)
    · skip
      refine g_iload_n F dX8_refused_28 rfl 2 rfl ?_
      refine g_i2l F dX8_refused_29 (by omega) ?_
      refine g_lconst F dX8_refused_30 0 (by decide) ?_
      refine g_aload_n F dX8_refused_31 rfl 0 rfl ?_
      refine gg_Model_sizes F fk_X8_25 dX8_refused_32 ?_
      refine g_iload_n F dX8_refused_35 rfl 1 rfl ?_
      refine ga_45 F (by omega) dX8_refused_36 ?_
      refine g_topi (b := z 17 (r) 0) ((hRel.2.2.2.1.1 _ (by omega) (by omega)).1) ?_
      refine g_iconst F dX8_refused_37 (1) (by decide) ?_
      refine g_isub F dX8_refused_38 ?_
      refine g_i2l F dX8_refused_39 (by omega) ?_
      refine g_callS 3 F (As := [.long (Lg (i)), .long (Lg (0)), .long (Lg ((z 17 (r) 0) - (1)))]) (st := []) (c_X8_in l D ad x y (i) (0) ((z 17 (r) 0) - (1)) (by omega) (by omega) (by omega)) rfl mk_X8_74 ki_X8_in kc_X8_in (by decide +kernel) rfl (by decide) dX8_refused_40 rfl (Nat.le_of_ble_eq_true rfl) (pB_k ?_)
      refine g_ifb_eq 50 F dX8_refused_43 rfl (fun c_3 => ?_) (fun c_3 => ?_)
      · skip
        refine g_aload_n F dX8_refused_50 rfl 0 rfl ?_
        refine g_iconst F dX8_refused_51 (2) (by decide) ?_
        refine g_callV 1 F (As := [.int (J (2))]) (st := []) (c_X8_find l D ad x y (2) (by omega)) (gR_8) rfl mk_X8_84 ki_X8_find kc_X8_find (by decide +kernel) rfl (by decide) dX8_refused_52 rfl (Nat.le_of_ble_eq_true rfl) (pI_k ?_)
        exact g_ireturn F hR dX8_refused_55 (pH_z (by first | (rw [pRf_a (by omega)]; done) | (rw [pRf_b (by omega) (by omega)]; done) | (rw [pRf_c (by omega) (by omega) (by omega)]; done) | (rw [pRf_d (by omega) (by omega) (by omega)]; done)) (by first | (rw [pRf_a (by omega)]; exact hRel) | (rw [pRf_b (by omega) (by omega)]; exact Rel_find hRel (by decide)) | (rw [pRf_c (by omega) (by omega) (by omega)]; exact Rel_find hRel (by decide)) | (rw [pRf_d (by omega) (by omega) (by omega)]; exact hRel)) rfl)
      · skip
        refine g_iconst F dX8_refused_46 (0) (by decide) ?_
        refine g_goto F 55 dX8_refused_47 rfl ?_
        exact g_ireturn F hR dX8_refused_55 (pH_z (by first | (rw [pRf_a (by omega)]; done) | (rw [pRf_b (by omega) (by omega)]; done) | (rw [pRf_c (by omega) (by omega) (by omega)]; done) | (rw [pRf_d (by omega) (by omega) (by omega)]; done)) (by first | (rw [pRf_a (by omega)]; exact hRel) | (rw [pRf_b (by omega) (by omega)]; exact Rel_find hRel (by decide)) | (rw [pRf_c (by omega) (by omega) (by omega)]; exact Rel_find hRel (by decide)) | (rw [pRf_d (by omega) (by omega) (by omega)]; exact hRel)) rfl)
    · skip
      refine g_aload_n F dX8_refused_20 rfl 0 rfl ?_
      refine g_iconst F dX8_refused_21 (1) (by decide) ?_
      refine g_callV 1 F (As := [.int (J (1))]) (st := []) (c_X8_find l D ad x y (1) (by omega)) (gR_8) rfl mk_X8_84 ki_X8_find kc_X8_find (by decide +kernel) rfl (by decide) dX8_refused_22 rfl (Nat.le_of_ble_eq_true rfl) (pI_k ?_)
      refine g_goto F 55 dX8_refused_25 rfl ?_
      exact g_ireturn F hR dX8_refused_55 (pH_z (by first | (rw [pRf_a (by omega)]; done) | (rw [pRf_b (by omega) (by omega)]; done) | (rw [pRf_c (by omega) (by omega) (by omega)]; done) | (rw [pRf_d (by omega) (by omega) (by omega)]; done)) (by first | (rw [pRf_a (by omega)]; exact hRel) | (rw [pRf_b (by omega) (by omega)]; exact Rel_find hRel (by decide)) | (rw [pRf_c (by omega) (by omega) (by omega)]; exact Rel_find hRel (by decide)) | (rw [pRf_d (by omega) (by omega) (by omega)]; exact hRel)) rfl)
  · skip
    refine g_iconst F dX8_refused_7 (-1) (by decide) ?_
    refine g_goto F 55 dX8_refused_8 rfl ?_
    exact g_ireturn F hR dX8_refused_55 (pH_z (by first | (rw [pRf_a (by omega)]; done) | (rw [pRf_b (by omega) (by omega)]; done) | (rw [pRf_c (by omega) (by omega) (by omega)]; done) | (rw [pRf_d (by omega) (by omega) (by omega)]; done)) (by first | (rw [pRf_a (by omega)]; exact hRel) | (rw [pRf_b (by omega) (by omega)]; exact Rel_find hRel (by decide)) | (rw [pRf_c (by omega) (by omega) (by omega)]; exact Rel_find hRel (by decide)) | (rw [pRf_d (by omega) (by omega) (by omega)]; exact hRel)) rfl)

set_option maxRecDepth 20000 in
theorem c_X8_makeRow (l : Launch) (D : gD) (ad : gA) (x : gX) (y : gY) (r n : Int) (hr : 0 ≤ r ∧ r < 6) : gC l D ad 0 yX8_makeRow cX8_makeRow 4 none [.ref (ad 8 (0)), .int (J (r)), .int (J (n))] x y (pV (x) (zrM (yU y 45 r n) 46 (40 * r) 0 40)) := by
  refine g_met RX8 rfl (by decide +kernel) [(0, .ref (ad 8 (0))), (1, .int (J (r))), (2, .int (J (n)))] rfl (Nat.le_of_ble_eq_true rfl) (fun Θ F hR => ?_)
  refine g_aload_n F dX8_makeRow_0 rfl 0 rfl ?_
  refine gg_Model_sizes F fk_X8_25 dX8_makeRow_1 ?_
  refine g_iload_n F dX8_makeRow_4 rfl 1 rfl ?_
  refine g_iload_n F dX8_makeRow_5 rfl 2 rfl ?_
  refine gs_45 F (by omega) dX8_makeRow_6 ?_
  refine g_iconst F dX8_makeRow_7 (0) (by decide) ?_
  refine g_istore_n F [(3, .int (J (0))), (0, .ref (ad 8 (0))), (1, .int (J (r))), (2, .int (J (n)))] dX8_makeRow_8 rfl (by decide) rfl ?_
  have L9 : ∀ (N : Nat) (j : Int), 0 ≤ j ∧ j ≤ 40 → (40 - j).toNat < N → gW Θ l D ad 4 9 [(0, .ref (ad 8 (0))), (1, .int (J (r))), (2, .int (J (n))), (3, .int (J (j)))] [] x (zrM (yU y 45 r n) 46 (40 * r) 0 j) := by
    intro N
    induction N with
    | zero => intro j hj hFu; omega
    | succ N ih9 =>
      intro j hj hFu
      refine g_iload_n F dX8_makeRow_9 rfl 3 rfl ?_
      refine g_bipush F dX8_makeRow_10 (40) (by decide) ?_
      refine g_icmp_ge 33 F dX8_makeRow_12 (by omega) (by decide) rfl (fun c_1 => ?_) (fun c_1 => ?_)
      · skip
        exact g_vreturn F hR dX8_makeRow_33 (pV_i rfl (by rw [show j = 40 by omega]))
      · skip
        refine g_aload_n F dX8_makeRow_15 rfl 0 rfl ?_
        refine gg_Model_items F fk_X8_28 dX8_makeRow_16 ?_
        refine g_bipush F dX8_makeRow_19 (40) (by decide) ?_
        refine g_iload_n F dX8_makeRow_21 rfl 1 rfl ?_
        refine g_imul F dX8_makeRow_22 ?_
        refine g_iload_n F dX8_makeRow_23 rfl 3 rfl ?_
        refine g_iadd F dX8_makeRow_24 ?_
        refine g_iconst F dX8_makeRow_25 (0) (by decide) ?_
        refine gs_46 F (by omega) dX8_makeRow_26 ?_
        refine g_iinc F [(3, .int (J (j + 1))), (0, .ref (ad 8 (0))), (1, .int (J (r))), (2, .int (J (n)))] 3 rfl dX8_makeRow_27 (by decide) rfl ?_
        refine g_goto F 9 dX8_makeRow_30 rfl ?_
        refine g_sub [1, 2, 3, 0] (lv' := [(0, .ref (ad 8 (0))), (1, .int (J (r))), (2, .int (J (n))), (3, .int (J (j + 1)))]) rfl ?_
        exact gW_eq (ih9 (j + 1) (by omega) (by omega)) rfl rfl rfl (rfl) (zrM_s _ _ _ _ (by omega))
  refine g_sub [1, 2, 3, 0] (lv' := [(0, .ref (ad 8 (0))), (1, .int (J (r))), (2, .int (J (n))), (3, .int (J (0)))]) rfl ?_
  exact gW_eq (L9 _ (0) (by omega) (Nat.lt_succ_self _)) rfl rfl rfl (rfl) ((zrM_0 _ _ _ _).symm)

set_option maxRecDepth 20000 in
theorem c_X8_row (l : Launch) (D : gD) (ad : gA) (x : gX) (y : gY) (z : gX) (r n : Int) (hr : i32 r) (hn : i32 n) (hRel : Rel z y) : gC l D ad 2 yX8_row cX8_row 3 (some .int) [.ref (ad 8 (0)), .int (J (r)), .int (J (n))] x y (pH (.int (J ((lRf z 6 r 40 r n 0).1))) (x) (fun w => Rel (lRf z 6 r 40 r n 0).2 w)) := by
  refine g_met RX8 rfl (by decide +kernel) [(0, .ref (ad 8 (0))), (1, .int (J (r))), (2, .int (J (n)))] rfl (Nat.le_of_ble_eq_true rfl) (fun Θ F hR => ?_)
  have hN := hRel.1.1
  have hRW := hRel.1.2.1
  have hDD := hRel.1.2.2.1
  have hST := hRel.2.1
  have hB := Rel_SB hRel
  have h10 := hN.2.1
  have h15 := hN.2.2.1
  refine g_iload_n F dX8_row_0 rfl 1 rfl ?_
  refine g_callS 1 F (As := [.int (J (r))]) (st := []) (c_X8_isRow l D ad x y (r) (by omega)) rfl mk_X8_80 ki_X8_isRow kc_X8_isRow (by decide +kernel) rfl (by decide) dX8_row_1 rfl (Nat.le_of_ble_eq_true rfl) (pB_k ?_)
  refine g_ifb_eq 13 F dX8_row_4 rfl (fun c_1 => ?_) (fun c_1 => ?_)
  · skip
    refine g_iconst F dX8_row_13 (-1) (by decide) ?_
    exact g_ireturn F hR dX8_row_14 (pH_z (by unfold lRf; (repeat' split) <;> first | rfl | (exfalso; omega)) (by unfold lRf; (repeat' split) <;> first | exact hRel | exact Rel_find hRel (by decide) | exact Rel_row hRel (by omega) (by omega) | (exfalso; omega)) rfl)
  · skip
    refine g_iload_n F dX8_row_7 rfl 2 rfl ?_
    refine g_bipush F dX8_row_8 (40) (by decide) ?_
    refine g_icmp_le 15 F dX8_row_10 (by omega) (by decide) rfl (fun c_2 => ?_) (fun c_2 => ?_)
    · skip
      refine g_iload_n F dX8_row_15 rfl 2 rfl ?_
      refine g_if_ge 25 F dX8_row_16 (by omega) rfl (fun c_3 => ?_) (fun c_3 => ?_)
      · skip
        refine g_aload_n F dX8_row_25 rfl 0 rfl ?_
        refine g_iload_n F dX8_row_26 rfl 1 rfl ?_
        refine g_iload_n F dX8_row_27 rfl 2 rfl ?_
        refine g_callV 2 F (As := [.int (J (r)), .int (J (n))]) (st := []) (c_X8_makeRow l D ad x y (r) (n) (by omega)) (gR_8) rfl mk_X8_88 ki_X8_makeRow kc_X8_makeRow (by decide +kernel) rfl (by decide) dX8_row_28 rfl (Nat.le_of_ble_eq_true rfl) (pV_k ?_)
        refine g_iload_n F dX8_row_31 rfl 2 rfl ?_
        exact g_ireturn F hR dX8_row_32 (pH_z (by unfold lRf; (repeat' split) <;> first | rfl | (exfalso; omega)) (by unfold lRf; (repeat' split) <;> first | exact hRel | exact Rel_find hRel (by decide) | exact Rel_row hRel (by omega) (by omega) | (exfalso; omega)) rfl)
      · skip
        refine g_aload_n F dX8_row_19 rfl 0 rfl ?_
        refine g_iconst F dX8_row_20 (5) (by decide) ?_
        refine g_callV 1 F (As := [.int (J (5))]) (st := []) (c_X8_find l D ad x y (5) (by omega)) (gR_8) rfl mk_X8_84 ki_X8_find kc_X8_find (by decide +kernel) rfl (by decide) dX8_row_21 rfl (Nat.le_of_ble_eq_true rfl) (pI_k ?_)
        exact g_ireturn F hR dX8_row_24 (pH_z (by unfold lRf; (repeat' split) <;> first | rfl | (exfalso; omega)) (by unfold lRf; (repeat' split) <;> first | exact hRel | exact Rel_find hRel (by decide) | exact Rel_row hRel (by omega) (by omega) | (exfalso; omega)) rfl)
    · skip
      refine g_iconst F dX8_row_13 (-1) (by decide) ?_
      exact g_ireturn F hR dX8_row_14 (pH_z (by unfold lRf; (repeat' split) <;> first | rfl | (exfalso; omega)) (by unfold lRf; (repeat' split) <;> first | exact hRel | exact Rel_find hRel (by decide) | exact Rel_row hRel (by omega) (by omega) | (exfalso; omega)) rfl)

set_option maxRecDepth 20000 in
theorem c_X8_lay (l : Launch) (D : gD) (ad : gA) (x : gX) (y : gY) (z : gX) (r i v : Int) (hr : i32 r) (hi : i32 i) (hv : i32 v) (hRel : Rel z y) : gC l D ad 3 yX8_lay cX8_lay 6 (some .int) [.ref (ad 8 (0)), .int (J (r)), .int (J (i)), .int (J (v))] x y (pH (.int (J ((sLay z r i v).1))) (x) (fun w => Rel (sLay z r i v).2 w)) := by
  refine g_met RX8 rfl (by decide +kernel) [(0, .ref (ad 8 (0))), (1, .int (J (r))), (2, .int (J (i))), (3, .int (J (v)))] rfl (Nat.le_of_ble_eq_true rfl) (fun Θ F hR => ?_)
  have hN := hRel.1.1
  have hRW := hRel.1.2.1
  have hDD := hRel.1.2.2.1
  have hST := hRel.2.1
  have hB := Rel_SB hRel
  have h10 := hN.2.1
  have h15 := hN.2.2.1
  refine g_aload_n F dX8_lay_0 rfl 0 rfl ?_
  refine g_iload_n F dX8_lay_1 rfl 1 rfl ?_
  refine g_iload_n F dX8_lay_2 rfl 2 rfl ?_
  refine g_callV 2 F (As := [.int (J (r)), .int (J (i))]) (st := []) (c_X8_refused l D ad x y z (r) (i) (by omega) (by omega) (hRel)) (gR_8) rfl mk_X8_92 ki_X8_refused kc_X8_refused (by decide +kernel) rfl (by decide) dX8_lay_3 rfl (Nat.le_of_ble_eq_true rfl) (pH_k (fun v_3 hG_3 => ?_))
  have hpr := pRf_i z 6 r r i
  refine g_istore F [(4, .int (J ((pRf z 6 (r) (r) (i)).1))), (0, .ref (ad 8 (0))), (1, .int (J (r))), (2, .int (J (i))), (3, .int (J (v)))] dX8_lay_6 (by decide) rfl ?_
  refine g_iload F dX8_lay_8 0 rfl ?_
  refine g_if_eq 16 F dX8_lay_10 (by omega) rfl (fun c_1 => ?_) (fun c_1 => ?_)
  · skip
    have hq := pRf_0 c_1
    have hR2 : Rel z v_3 := by have q := hG_3; rw [hq.2.2] at q; exact q
    have hw := hRW (r) (by omega) (by omega)
    have hw2 : -1 ≤ z 17 (r) 0 ∧ z 17 (r) 0 ≤ 60 := by have := hw.1; split at this <;> omega
    refine g_aload_n F dX8_lay_16 rfl 1 rfl ?_
    refine gg_Model_items F fk_X8_28 dX8_lay_17 ?_
    refine g_bipush F dX8_lay_20 (40) (by decide) ?_
    refine g_iload_n F dX8_lay_22 rfl 2 rfl ?_
    refine g_imul F dX8_lay_23 ?_
    refine g_iload_n F dX8_lay_24 rfl 3 rfl ?_
    refine g_iadd F dX8_lay_25 ?_
    refine ga_46 F (by omega) dX8_lay_26 ?_
    refine g_topi (b := z 20 (r) (i)) ((hR2.2.2.2.1.1 _ (by omega) (by omega)).2 _ (by omega) (by omega)) ?_
    refine g_istore F [(5, .int (J (z 20 (r) (i)))), (4, .int (J ((pRf z 6 (r) (r) (i)).1))), (0, .ref (ad 8 (0))), (1, .int (J (r))), (2, .int (J (i))), (3, .int (J (v)))] dX8_lay_27 (by decide) rfl ?_
    refine g_aload_n F dX8_lay_29 rfl 2 rfl ?_
    refine gg_Model_items F fk_X8_28 dX8_lay_30 ?_
    refine g_bipush F dX8_lay_33 (40) (by decide) ?_
    refine g_iload_n F dX8_lay_35 rfl 3 rfl ?_
    refine g_imul F dX8_lay_36 ?_
    refine g_iload_n F dX8_lay_37 rfl 4 rfl ?_
    refine g_iadd F dX8_lay_38 ?_
    refine g_iload_n F dX8_lay_39 rfl 5 rfl ?_
    refine gs_46 F (by omega) dX8_lay_40 ?_
    refine g_aload_n F dX8_lay_41 rfl 2 rfl ?_
    refine g_iload F dX8_lay_42 0 rfl ?_
    refine g_callV 1 F (As := [.int (J (z 20 (r) (i)))]) (st := []) (c_X8_tell l D ad x (yU v_3 46 (((40) * (r)) + (i)) (v)) (z 20 (r) (i)) ) (gR_8) rfl mk_X8_96 ki_X8_tell kc_X8_tell (by decide +kernel) rfl (by decide) dX8_lay_44 rfl (Nat.le_of_ble_eq_true rfl) (pI_k ?_)
    exact g_ireturn F hR dX8_lay_47 (pH_z (by unfold sLay; first | (rw [if_pos (by omega)]; done) | (rw [if_neg (by omega)]; done)) (by unfold sLay; first | (rw [if_pos (by omega)]; exact hG_3) | (rw [if_neg (by omega)]; exact Rel_lay hR2 (by omega) (by omega) hv)) rfl)
  · skip
    refine g_iload F dX8_lay_13 0 rfl ?_
    exact g_ireturn F hR dX8_lay_15 (pH_z (by unfold sLay; first | (rw [if_pos (by omega)]; done) | (rw [if_neg (by omega)]; done)) (by unfold sLay; first | (rw [if_pos (by omega)]; exact hG_3) | (rw [if_neg (by omega)]; exact Rel_lay hR2 (by omega) (by omega) hv)) rfl)

set_option maxRecDepth 20000 in
theorem c_X8_at (l : Launch) (D : gD) (ad : gA) (x : gX) (y : gY) (z : gX) (r i : Int) (hr : i32 r) (hi : i32 i) (hRel : Rel z y) : gC l D ad 3 yX8_at cX8_at 4 (some .int) [.ref (ad 8 (0)), .int (J (r)), .int (J (i))] x y (pH (.int (J ((sAt z r i).1))) (x) (fun w => Rel (sAt z r i).2 w)) := by
  refine g_met RX8 rfl (by decide +kernel) [(0, .ref (ad 8 (0))), (1, .int (J (r))), (2, .int (J (i)))] rfl (Nat.le_of_ble_eq_true rfl) (fun Θ F hR => ?_)
  have hN := hRel.1.1
  have hRW := hRel.1.2.1
  have hDD := hRel.1.2.2.1
  have hST := hRel.2.1
  have hB := Rel_SB hRel
  have h10 := hN.2.1
  have h15 := hN.2.2.1
  refine g_aload_n F dX8_at_0 rfl 0 rfl ?_
  refine g_iload_n F dX8_at_1 rfl 1 rfl ?_
  refine g_iload_n F dX8_at_2 rfl 2 rfl ?_
  refine g_callV 2 F (As := [.int (J (r)), .int (J (i))]) (st := []) (c_X8_refused l D ad x y z (r) (i) (by omega) (by omega) (hRel)) (gR_8) rfl mk_X8_92 ki_X8_refused kc_X8_refused (by decide +kernel) rfl (by decide) dX8_at_3 rfl (Nat.le_of_ble_eq_true rfl) (pH_k (fun v_3 hG_3 => ?_))
  have hpr := pRf_i z 6 r r i
  refine g_istore_n F [(3, .int (J ((pRf z 6 (r) (r) (i)).1))), (0, .ref (ad 8 (0))), (1, .int (J (r))), (2, .int (J (i)))] dX8_at_6 rfl (by decide) rfl ?_
  refine g_iload_n F dX8_at_7 rfl 0 rfl ?_
  refine g_if_eq 15 F dX8_at_8 (by omega) rfl (fun c_1 => ?_) (fun c_1 => ?_)
  · skip
    have hq := pRf_0 c_1
    have hR2 : Rel z v_3 := by have q := hG_3; rw [hq.2.2] at q; exact q
    have hw := hRW (r) (by omega) (by omega)
    have hw2 : -1 ≤ z 17 (r) 0 ∧ z 17 (r) 0 ≤ 60 := by have := hw.1; split at this <;> omega
    refine g_aload_n F dX8_at_15 rfl 1 rfl ?_
    refine g_aload_n F dX8_at_16 rfl 1 rfl ?_
    refine gg_Model_items F fk_X8_28 dX8_at_17 ?_
    refine g_bipush F dX8_at_20 (40) (by decide) ?_
    refine g_iload_n F dX8_at_22 rfl 2 rfl ?_
    refine g_imul F dX8_at_23 ?_
    refine g_iload_n F dX8_at_24 rfl 3 rfl ?_
    refine g_iadd F dX8_at_25 ?_
    refine ga_46 F (by omega) dX8_at_26 ?_
    refine g_topi (b := z 20 (r) (i)) ((hR2.2.2.2.1.1 _ (by omega) (by omega)).2 _ (by omega) (by omega)) ?_
    refine g_callV 1 F (As := [.int (J (z 20 (r) (i)))]) (st := []) (c_X8_tell l D ad x v_3 (z 20 (r) (i)) ) (gR_8) rfl mk_X8_96 ki_X8_tell kc_X8_tell (by decide +kernel) rfl (by decide) dX8_at_27 rfl (Nat.le_of_ble_eq_true rfl) (pI_k ?_)
    exact g_ireturn F hR dX8_at_30 (pH_z (by unfold sAt; first | (rw [if_pos (by omega)]; done) | (rw [if_neg (by omega)]; done)) (by unfold sAt; first | (rw [if_pos (by omega)]; exact hG_3) | (rw [if_neg (by omega)]; exact Rel_tell hR2 _)) rfl)
  · skip
    refine g_iload_n F dX8_at_11 rfl 0 rfl ?_
    refine g_goto F 30 dX8_at_12 rfl ?_
    exact g_ireturn F hR dX8_at_30 (pH_z (by unfold sAt; first | (rw [if_pos (by omega)]; done) | (rw [if_neg (by omega)]; done)) (by unfold sAt; first | (rw [if_pos (by omega)]; exact hG_3) | (rw [if_neg (by omega)]; exact Rel_tell hR2 _)) rfl)

set_option maxRecDepth 20000 in
theorem c_X8_tear (l : Launch) (D : gD) (ad : gA) (x : gX) (y : gY) (z : gX) (r : Int) (hr : i32 r) (hRel : Rel z y) : gC l D ad 2 yX8_tear cX8_tear 2 (some .int) [.ref (ad 8 (0)), .int (J (r))] x y (pH (.int (J ((sTear z r).1))) (x) (fun w => Rel (sTear z r).2 w)) := by
  refine g_met RX8 rfl (by decide +kernel) [(0, .ref (ad 8 (0))), (1, .int (J (r)))] rfl (Nat.le_of_ble_eq_true rfl) (fun Θ F hR => ?_)
  have hN := hRel.1.1
  have hRW := hRel.1.2.1
  have hDD := hRel.1.2.2.1
  have hST := hRel.2.1
  have hB := Rel_SB hRel
  have h10 := hN.2.1
  have h15 := hN.2.2.1
  refine g_iload_n F dX8_tear_0 rfl 1 rfl ?_
  refine g_callS 1 F (As := [.int (J (r))]) (st := []) (c_X8_isRow l D ad x y (r) (by omega)) rfl mk_X8_80 ki_X8_isRow kc_X8_isRow (by decide +kernel) rfl (by decide) dX8_tear_1 rfl (Nat.le_of_ble_eq_true rfl) (pB_k ?_)
  refine g_ifb_ne 9 F dX8_tear_4 rfl (fun c_1 => ?_) (fun c_1 => ?_)
  · skip
    have hw := hRW (r) (by omega) (by omega)
    have hw2 : -1 ≤ z 17 (r) 0 ∧ z 17 (r) 0 ≤ 60 := by have := hw.1; split at this <;> omega
    refine g_aload_n F dX8_tear_9 rfl 0 rfl ?_
    refine gg_Model_sizes F fk_X8_25 dX8_tear_10 ?_
    refine g_iload_n F dX8_tear_13 rfl 1 rfl ?_
    refine ga_45 F (by omega) dX8_tear_14 ?_
    refine g_topi (b := z 17 (r) 0) ((hRel.2.2.2.1.1 _ (by omega) (by omega)).1) ?_
    refine g_if_ge 24 F dX8_tear_15 (by omega) rfl (fun c_2 => ?_) (fun c_2 => ?_)
    · skip
      refine g_aload_n F dX8_tear_24 rfl 0 rfl ?_
      refine gg_Model_sizes F fk_X8_25 dX8_tear_25 ?_
      refine g_iload_n F dX8_tear_28 rfl 1 rfl ?_
      refine g_iconst F dX8_tear_29 (-1) (by decide) ?_
      refine gs_45 F (by omega) dX8_tear_30 ?_
      refine g_iconst F dX8_tear_31 (1) (by decide) ?_
      exact g_ireturn F hR dX8_tear_32 (pH_z (by unfold sTear; first | (rw [mRf_a (by omega)]; exact rfl) | (rw [mRf_b (by omega) (by omega)]; exact rfl) | (rw [mRf_c (by omega) (by omega)]; rfl)) (by unfold sTear; first | (rw [mRf_a (by omega)]; exact hRel) | (rw [mRf_b (by omega) (by omega)]; exact Rel_find hRel (by decide)) | (rw [mRf_c (by omega) (by omega)]; exact Rel_tear hRel (by omega))) rfl)
    · skip
      refine g_aload_n F dX8_tear_18 rfl 0 rfl ?_
      refine g_iconst F dX8_tear_19 (1) (by decide) ?_
      refine g_callV 1 F (As := [.int (J (1))]) (st := []) (c_X8_find l D ad x y (1) (by omega)) (gR_8) rfl mk_X8_84 ki_X8_find kc_X8_find (by decide +kernel) rfl (by decide) dX8_tear_20 rfl (Nat.le_of_ble_eq_true rfl) (pI_k ?_)
      exact g_ireturn F hR dX8_tear_23 (pH_z (by unfold sTear; first | (rw [mRf_a (by omega)]; exact rfl) | (rw [mRf_b (by omega) (by omega)]; exact rfl) | (rw [mRf_c (by omega) (by omega)]; rfl)) (by unfold sTear; first | (rw [mRf_a (by omega)]; exact hRel) | (rw [mRf_b (by omega) (by omega)]; exact Rel_find hRel (by decide)) | (rw [mRf_c (by omega) (by omega)]; exact Rel_tear hRel (by omega))) rfl)
  · skip
    refine g_iconst F dX8_tear_7 (-1) (by decide) ?_
    exact g_ireturn F hR dX8_tear_8 (pH_z (by unfold sTear; first | (rw [mRf_a (by omega)]; exact rfl) | (rw [mRf_b (by omega) (by omega)]; exact rfl) | (rw [mRf_c (by omega) (by omega)]; rfl)) (by unfold sTear; first | (rw [mRf_a (by omega)]; exact hRel) | (rw [mRf_b (by omega) (by omega)]; exact Rel_find hRel (by decide)) | (rw [mRf_c (by omega) (by omega)]; exact Rel_tear hRel (by omega))) rfl)

set_option maxRecDepth 20000 in
theorem c_X8_isSpan (l : Launch) (D : gD) (ad : gA) (x : gX) (y : gY) (z : gX) (r i n : Int) (hr : 0 ≤ r ∧ r < 6) (hi : i32 i) (hn : 0 ≤ n ∧ i32 n) (hRel : Rel z y) (hs : 0 ≤ z 17 r 0) : gC l D ad 0 yX8_isSpan cX8_isSpan 4 (some .boolean) [.ref (ad 8 (0)), .int (J (r)), .int (J (i)), .int (J (n))] x y (pB (stP z r i n) (x) (y)) := by
  refine g_met RX8 rfl (by decide +kernel) [(0, .ref (ad 8 (0))), (1, .int (J (r))), (2, .int (J (i))), (3, .int (J (n)))] rfl (Nat.le_of_ble_eq_true rfl) (fun Θ F hR => ?_)
  have hN := hRel.1.1
  have hRW := hRel.1.2.1
  have hDD := hRel.1.2.2.1
  have hST := hRel.2.1
  have hB := Rel_SB hRel
  have h10 := hN.2.1
  have h15 := hN.2.2.1
  have hw := hRW (r) (by omega) (by omega)
  have hw2 : -1 ≤ z 17 (r) 0 ∧ z 17 (r) 0 ≤ 60 := by have := hw.1; split at this <;> omega
  refine g_iload_n F dX8_isSpan_0 rfl 2 rfl ?_
  refine g_if_lt 24 F dX8_isSpan_1 (by omega) rfl (fun c_1 => ?_) (fun c_1 => ?_)
  · skip
    refine g_iconst F dX8_isSpan_24 (0) (by decide) ?_
    exact g_zreturn F hR dX8_isSpan_25 (by omega) (pB_i (by split <;> omega) rfl rfl)
  · skip
    refine g_iload_n F dX8_isSpan_4 rfl 2 rfl ?_
    refine g_i2l F dX8_isSpan_5 (by omega) ?_
    refine g_iload_n F dX8_isSpan_6 rfl 3 rfl ?_
    refine g_i2l F dX8_isSpan_7 (by omega) ?_
    refine g_ladd F dX8_isSpan_8 ?_
    refine g_aload_n F dX8_isSpan_9 rfl 0 rfl ?_
    refine gg_Model_sizes F fk_X8_25 dX8_isSpan_10 ?_
    refine g_iload_n F dX8_isSpan_13 rfl 1 rfl ?_
    refine ga_45 F (by omega) dX8_isSpan_14 ?_
    refine g_topi (b := z 17 (r) 0) ((hRel.2.2.2.1.1 _ (by omega) (by omega)).1) ?_
    refine g_i2l F dX8_isSpan_15 (by omega) ?_
    refine g_lcmp_gt 24 F dX8_isSpan_16 dX8_isSpan_17 (by omega) (by omega) rfl (fun c_2 => ?_) (fun c_2 => ?_)
    · skip
      refine g_iconst F dX8_isSpan_24 (0) (by decide) ?_
      exact g_zreturn F hR dX8_isSpan_25 (by omega) (pB_i (by split <;> omega) rfl rfl)
    · skip
      refine g_iconst F dX8_isSpan_20 (1) (by decide) ?_
      refine g_goto F 25 dX8_isSpan_21 rfl ?_
      exact g_zreturn F hR dX8_isSpan_25 (by omega) (pB_i (by split <;> omega) rfl rfl)

set_option maxRecDepth 20000 in
theorem c_X8_copy (l : Launch) (D : gD) (ad : gA) (x : gX) (y : gY) (z : gX) (r i t j n : Int) (hr : i32 r) (hi : i32 i) (ht : i32 t) (hj : i32 j) (hn : i32 n) (hRel : Rel z y) : gC l D ad 2 yX8_copy cX8_copy 9 (some .int) [.ref (ad 8 (0)), .int (J (r)), .int (J (i)), .int (J (t)), .int (J (j)), .int (J (n))] x y (pH (.int (J ((sCopy z r i t j n).1))) (x) (fun w => Rel (sCopy z r i t j n).2 w)) := by
  refine g_met RX8 rfl (by decide +kernel) [(0, .ref (ad 8 (0))), (1, .int (J (r))), (2, .int (J (i))), (3, .int (J (t))), (4, .int (J (j))), (5, .int (J (n)))] rfl (Nat.le_of_ble_eq_true rfl) (fun Θ F hR => ?_)
  have hN := hRel.1.1
  have hRW := hRel.1.2.1
  have hDD := hRel.1.2.2.1
  have hST := hRel.2.1
  have hB := Rel_SB hRel
  have h10 := hN.2.1
  have h15 := hN.2.2.1
  refine g_iload_n F dX8_copy_0 rfl 1 rfl ?_
  refine g_callS 1 F (As := [.int (J (r))]) (st := []) (c_X8_isRow l D ad x y (r) (by omega)) rfl mk_X8_80 ki_X8_isRow kc_X8_isRow (by decide +kernel) rfl (by decide) dX8_copy_1 rfl (Nat.le_of_ble_eq_true rfl) (pB_k ?_)
  refine g_ifb_eq 14 F dX8_copy_4 rfl (fun c_1 => ?_) (fun c_1 => ?_)
  · skip
    refine g_iconst F dX8_copy_14 (-1) (by decide) ?_
    exact g_ireturn F hR dX8_copy_15 (pH_z (by unfold sCopy; first | (rw [if_pos (by omega)]; done) | (rw [if_neg (by omega), if_pos (by omega)]; done) | (rw [if_neg (by omega), if_neg (by omega), if_pos (by omega)]; done) | (rw [if_neg (by omega), if_neg (by omega), if_neg (by omega), if_pos (by omega)]; done) | (rw [if_neg (by omega), if_neg (by omega), if_neg (by omega), if_neg (by omega)]; done)) (by unfold sCopy; first | (rw [if_pos (by omega)]; exact hRel) | (rw [if_neg (by omega), if_pos (by omega)]; exact Rel_find hRel (by decide)) | (rw [if_neg (by omega), if_neg (by omega), if_pos (by omega)]; exact Rel_find hRel (by decide)) | (rw [if_neg (by omega), if_neg (by omega), if_neg (by omega), if_pos (by omega)]; exact Rel_find hRel (by decide)) | (rw [if_neg (by omega), if_neg (by omega), if_neg (by omega), if_neg (by omega)]; have e := Rel_copy hRel (r := r) (i := i) (t := t) (j := j) (n := n) (by omega) (by omega) (by omega) (by omega) (by omega); rw [show q = n by omega]; (have e2 : (if i < j then n - n else 0) = 0 := by split <;> omega); (have e3 : (if i < j then n else n) = n := by split <;> rfl); rw [e2, e3]; exact e)) rfl)
  · skip
    refine g_iload_n F dX8_copy_7 rfl 3 rfl ?_
    refine g_callS 1 F (As := [.int (J (t))]) (st := []) (c_X8_isRow l D ad x y (t) (by omega)) rfl mk_X8_80 ki_X8_isRow kc_X8_isRow (by decide +kernel) rfl (by decide) dX8_copy_8 rfl (Nat.le_of_ble_eq_true rfl) (pB_k ?_)
    refine g_ifb_ne 16 F dX8_copy_11 rfl (fun c_2 => ?_) (fun c_2 => ?_)
    · skip
      refine g_iload F dX8_copy_16 5 rfl ?_
      refine g_if_ge 27 F dX8_copy_18 (by omega) rfl (fun c_3 => ?_) (fun c_3 => ?_)
      · skip
        have hw := hRW (r) (by omega) (by omega)
        have hw2 : -1 ≤ z 17 (r) 0 ∧ z 17 (r) 0 ≤ 60 := by have := hw.1; split at this <;> omega
        have hv := hRW (t) (by omega) (by omega)
        have hv2 : -1 ≤ z 17 (t) 0 ∧ z 17 (t) 0 ≤ 60 := by have := hv.1; split at this <;> omega
        refine g_aload_n F dX8_copy_27 rfl 0 rfl ?_
        refine gg_Model_sizes F fk_X8_25 dX8_copy_28 ?_
        refine g_iload_n F dX8_copy_31 rfl 1 rfl ?_
        refine ga_45 F (by omega) dX8_copy_32 ?_
        refine g_topi (b := z 17 (r) 0) ((hRel.2.2.2.1.1 _ (by omega) (by omega)).1) ?_
        refine g_if_lt 45 F dX8_copy_33 (by omega) rfl (fun c_4 => ?_) (fun c_4 => ?_)
        · skip
          refine g_aload_n F dX8_copy_45 rfl 0 rfl ?_
          refine g_iconst F dX8_copy_46 (1) (by decide) ?_
          refine g_callV 1 F (As := [.int (J (1))]) (st := []) (c_X8_find l D ad x y (1) (by omega)) (gR_8) rfl mk_X8_84 ki_X8_find kc_X8_find (by decide +kernel) rfl (by decide) dX8_copy_47 rfl (Nat.le_of_ble_eq_true rfl) (pI_k ?_)
          exact g_ireturn F hR dX8_copy_50 (pH_z (by unfold sCopy; first | (rw [if_pos (by omega)]; done) | (rw [if_neg (by omega), if_pos (by omega)]; done) | (rw [if_neg (by omega), if_neg (by omega), if_pos (by omega)]; done) | (rw [if_neg (by omega), if_neg (by omega), if_neg (by omega), if_pos (by omega)]; done) | (rw [if_neg (by omega), if_neg (by omega), if_neg (by omega), if_neg (by omega)]; done)) (by unfold sCopy; first | (rw [if_pos (by omega)]; exact hRel) | (rw [if_neg (by omega), if_pos (by omega)]; exact Rel_find hRel (by decide)) | (rw [if_neg (by omega), if_neg (by omega), if_pos (by omega)]; exact Rel_find hRel (by decide)) | (rw [if_neg (by omega), if_neg (by omega), if_neg (by omega), if_pos (by omega)]; exact Rel_find hRel (by decide)) | (rw [if_neg (by omega), if_neg (by omega), if_neg (by omega), if_neg (by omega)]; have e := Rel_copy hRel (r := r) (i := i) (t := t) (j := j) (n := n) (by omega) (by omega) (by omega) (by omega) (by omega); rw [show q = n by omega]; (have e2 : (if i < j then n - n else 0) = 0 := by split <;> omega); (have e3 : (if i < j then n else n) = n := by split <;> rfl); rw [e2, e3]; exact e)) rfl)
        · skip
          refine g_aload_n F dX8_copy_36 rfl 0 rfl ?_
          refine gg_Model_sizes F fk_X8_25 dX8_copy_37 ?_
          refine g_iload_n F dX8_copy_40 rfl 3 rfl ?_
          refine ga_45 F (by omega) dX8_copy_41 ?_
          refine g_topi (b := z 17 (t) 0) ((hRel.2.2.2.1.1 _ (by omega) (by omega)).1) ?_
          refine g_if_ge 51 F dX8_copy_42 (by omega) rfl (fun c_5 => ?_) (fun c_5 => ?_)
          · skip
            refine g_aload_n F dX8_copy_51 rfl 0 rfl ?_
            refine g_iload_n F dX8_copy_52 rfl 1 rfl ?_
            refine g_iload_n F dX8_copy_53 rfl 2 rfl ?_
            refine g_iload F dX8_copy_54 5 rfl ?_
            refine g_callV 3 F (As := [.int (J (r)), .int (J (i)), .int (J (n))]) (st := []) (c_X8_isSpan l D ad x y z (r) (i) (n) (by omega) (by omega) (by omega) (hRel) (by omega)) (gR_8) rfl mk_X8_99 ki_X8_isSpan kc_X8_isSpan (by decide +kernel) rfl (by decide) dX8_copy_56 rfl (Nat.le_of_ble_eq_true rfl) (pB_k ?_)
            refine g_ifb_eq 74 F dX8_copy_59 rfl (fun c_6 => ?_) (fun c_6 => ?_)
            · skip
              refine g_aload_n F dX8_copy_74 rfl 0 rfl ?_
              refine g_iconst F dX8_copy_75 (2) (by decide) ?_
              refine g_callV 1 F (As := [.int (J (2))]) (st := []) (c_X8_find l D ad x y (2) (by omega)) (gR_8) rfl mk_X8_84 ki_X8_find kc_X8_find (by decide +kernel) rfl (by decide) dX8_copy_76 rfl (Nat.le_of_ble_eq_true rfl) (pI_k ?_)
              exact g_ireturn F hR dX8_copy_79 (pH_z (by unfold sCopy; first | (rw [if_pos (by omega)]; done) | (rw [if_neg (by omega), if_pos (by omega)]; done) | (rw [if_neg (by omega), if_neg (by omega), if_pos (by omega)]; done) | (rw [if_neg (by omega), if_neg (by omega), if_neg (by omega), if_pos (by omega)]; done) | (rw [if_neg (by omega), if_neg (by omega), if_neg (by omega), if_neg (by omega)]; done)) (by unfold sCopy; first | (rw [if_pos (by omega)]; exact hRel) | (rw [if_neg (by omega), if_pos (by omega)]; exact Rel_find hRel (by decide)) | (rw [if_neg (by omega), if_neg (by omega), if_pos (by omega)]; exact Rel_find hRel (by decide)) | (rw [if_neg (by omega), if_neg (by omega), if_neg (by omega), if_pos (by omega)]; exact Rel_find hRel (by decide)) | (rw [if_neg (by omega), if_neg (by omega), if_neg (by omega), if_neg (by omega)]; have e := Rel_copy hRel (r := r) (i := i) (t := t) (j := j) (n := n) (by omega) (by omega) (by omega) (by omega) (by omega); rw [show q = n by omega]; (have e2 : (if i < j then n - n else 0) = 0 := by split <;> omega); (have e3 : (if i < j then n else n) = n := by split <;> rfl); rw [e2, e3]; exact e)) rfl)
            · skip
              refine g_aload_n F dX8_copy_62 rfl 0 rfl ?_
              refine g_iload_n F dX8_copy_63 rfl 3 rfl ?_
              refine g_iload F dX8_copy_64 4 rfl ?_
              refine g_iload F dX8_copy_66 5 rfl ?_
              refine g_callV 3 F (As := [.int (J (t)), .int (J (j)), .int (J (n))]) (st := []) (c_X8_isSpan l D ad x y z (t) (j) (n) (by omega) (by omega) (by omega) (hRel) (by omega)) (gR_8) rfl mk_X8_99 ki_X8_isSpan kc_X8_isSpan (by decide +kernel) rfl (by decide) dX8_copy_68 rfl (Nat.le_of_ble_eq_true rfl) (pB_k ?_)
              refine g_ifb_ne 80 F dX8_copy_71 rfl (fun c_7 => ?_) (fun c_7 => ?_)
              · skip
                refine g_iload_n F dX8_copy_80 rfl 2 rfl ?_
                refine g_iload F dX8_copy_81 4 rfl ?_
                refine g_icmp_ge 90 F dX8_copy_83 (by omega) (by omega) rfl (fun c_8 => ?_) (fun c_8 => ?_)
                · skip
                  refine g_iconst F dX8_copy_90 (0) (by decide) ?_
                  refine g_istore F [(6, .int (J (0))), (0, .ref (ad 8 (0))), (1, .int (J (r))), (2, .int (J (i))), (3, .int (J (t))), (4, .int (J (j))), (5, .int (J (n)))] dX8_copy_91 (by decide) rfl ?_
                  refine g_iconst F dX8_copy_93 (0) (by decide) ?_
                  refine g_istore F [(7, .int (J (0))), (6, .int (J (0))), (0, .ref (ad 8 (0))), (1, .int (J (r))), (2, .int (J (i))), (3, .int (J (t))), (4, .int (J (j))), (5, .int (J (n)))] dX8_copy_94 (by decide) rfl ?_
                  have L96 : ∀ (N : Nat) (bk : Int) (q : Int), 0 ≤ q ∧ q ≤ n → (bk = 1 ∧ i < j) ∨ (bk = 0 ∧ ¬ i < j) → (n - q).toNat < N → gW Θ l D ad 9 96 [(0, .ref (ad 8 (0))), (1, .int (J (r))), (2, .int (J (i))), (3, .int (J (t))), (4, .int (J (j))), (5, .int (J (n))), (6, .int (J (bk))), (7, .int (J (q)))] [] x (cpY y (40 * r + i) (40 * t + j) (if i < j then n - q else 0) (if i < j then n else q)) := by
                    intro N
                    induction N with
                    | zero => intro bk q hq hbk hFu; omega
                    | succ N ih96 =>
                      intro bk q hq hbk hFu
                      refine g_iload F dX8_copy_96 7 rfl ?_
                      refine g_iload F dX8_copy_98 5 rfl ?_
                      refine g_icmp_ge 157 F dX8_copy_100 (by omega) (by omega) rfl (fun c_9 => ?_) (fun c_9 => ?_)
                      · skip
                        refine g_iconst F dX8_copy_157 (1) (by decide) ?_
                        exact g_ireturn F hR dX8_copy_158 (pH_z (by unfold sCopy; first | (rw [if_pos (by omega)]; done) | (rw [if_neg (by omega), if_pos (by omega)]; done) | (rw [if_neg (by omega), if_neg (by omega), if_pos (by omega)]; done) | (rw [if_neg (by omega), if_neg (by omega), if_neg (by omega), if_pos (by omega)]; done) | (rw [if_neg (by omega), if_neg (by omega), if_neg (by omega), if_neg (by omega)]; done)) (by unfold sCopy; first | (rw [if_pos (by omega)]; exact hRel) | (rw [if_neg (by omega), if_pos (by omega)]; exact Rel_find hRel (by decide)) | (rw [if_neg (by omega), if_neg (by omega), if_pos (by omega)]; exact Rel_find hRel (by decide)) | (rw [if_neg (by omega), if_neg (by omega), if_neg (by omega), if_pos (by omega)]; exact Rel_find hRel (by decide)) | (rw [if_neg (by omega), if_neg (by omega), if_neg (by omega), if_neg (by omega)]; have e := Rel_copy hRel (r := r) (i := i) (t := t) (j := j) (n := n) (by omega) (by omega) (by omega) (by omega) (by omega); rw [show q = n by omega]; (have e2 : (if i < j then n - n else 0) = 0 := by split <;> omega); (have e3 : (if i < j then n else n) = n := by split <;> rfl); rw [e2, e3]; exact e)) rfl)
                      · skip
                        refine g_iload F dX8_copy_103 6 rfl ?_
                        refine g_if_eq 118 F dX8_copy_105 (by omega) rfl (fun c_10 => ?_) (fun c_10 => ?_)
                        · skip
                          have hc : ¬ i < j := by omega
                          refine g_iload F dX8_copy_118 7 rfl ?_
                          refine g_istore F [(8, .int (J (q))), (0, .ref (ad 8 (0))), (1, .int (J (r))), (2, .int (J (i))), (3, .int (J (t))), (4, .int (J (j))), (5, .int (J (n))), (6, .int (J (bk))), (7, .int (J (q)))] dX8_copy_120 (by decide) rfl ?_
                          refine g_aload_n F dX8_copy_122 rfl 1 rfl ?_
                          refine gg_Model_items F fk_X8_28 dX8_copy_123 ?_
                          refine g_bipush F dX8_copy_126 (40) (by decide) ?_
                          refine g_iload_n F dX8_copy_128 rfl 4 rfl ?_
                          refine g_imul F dX8_copy_129 ?_
                          refine g_iload F dX8_copy_130 5 rfl ?_
                          refine g_iadd F dX8_copy_132 ?_
                          refine g_iload F dX8_copy_133 0 rfl ?_
                          refine g_iadd F dX8_copy_135 ?_
                          refine g_aload_n F dX8_copy_136 rfl 1 rfl ?_
                          refine gg_Model_items F fk_X8_28 dX8_copy_137 ?_
                          refine g_bipush F dX8_copy_140 (40) (by decide) ?_
                          refine g_iload_n F dX8_copy_142 rfl 2 rfl ?_
                          refine g_imul F dX8_copy_143 ?_
                          refine g_iload_n F dX8_copy_144 rfl 3 rfl ?_
                          refine g_iadd F dX8_copy_145 ?_
                          refine g_iload F dX8_copy_146 0 rfl ?_
                          refine g_iadd F dX8_copy_148 ?_
                          refine ga_46 F (by omega) dX8_copy_149 ?_
                          refine g_topi (b := y 46 (40 * r + i + (q))) (cpY_at _ (by (first | (rw [if_pos hc, if_pos hc]; omega) | (rw [if_neg hc, if_neg hc]; omega)))) ?_
                          refine gs_46 F (by omega) dX8_copy_150 ?_
                          refine g_iinc F [(7, .int (J (q + 1))), (8, .int (J (q))), (0, .ref (ad 8 (0))), (1, .int (J (r))), (2, .int (J (i))), (3, .int (J (t))), (4, .int (J (j))), (5, .int (J (n))), (6, .int (J (bk)))] 8 rfl dX8_copy_151 (by decide) rfl ?_
                          refine g_goto F 96 dX8_copy_154 rfl ?_
                          refine g_sub [2, 3, 4, 5, 6, 7, 8, 0] (lv' := [(0, .ref (ad 8 (0))), (1, .int (J (r))), (2, .int (J (i))), (3, .int (J (t))), (4, .int (J (j))), (5, .int (J (n))), (6, .int (J (bk))), (7, .int (J (q + 1)))]) rfl ?_
                          exact gW_eq (ih96 (bk) (q + 1) (by omega) (by omega) (by omega)) rfl rfl rfl (rfl) (by first | exact cp_b hc (by omega) | exact cp_f hc (by omega))
                        · skip
                          have hc : i < j := by omega
                          refine g_iload F dX8_copy_108 5 rfl ?_
                          refine g_iconst F dX8_copy_110 (1) (by decide) ?_
                          refine g_isub F dX8_copy_111 ?_
                          refine g_iload F dX8_copy_112 7 rfl ?_
                          refine g_isub F dX8_copy_114 ?_
                          refine g_goto F 120 dX8_copy_115 rfl ?_
                          refine g_istore F [(8, .int (J (((n) - (1)) - (q)))), (0, .ref (ad 8 (0))), (1, .int (J (r))), (2, .int (J (i))), (3, .int (J (t))), (4, .int (J (j))), (5, .int (J (n))), (6, .int (J (bk))), (7, .int (J (q)))] dX8_copy_120 (by decide) rfl ?_
                          refine g_aload_n F dX8_copy_122 rfl 1 rfl ?_
                          refine gg_Model_items F fk_X8_28 dX8_copy_123 ?_
                          refine g_bipush F dX8_copy_126 (40) (by decide) ?_
                          refine g_iload_n F dX8_copy_128 rfl 4 rfl ?_
                          refine g_imul F dX8_copy_129 ?_
                          refine g_iload F dX8_copy_130 5 rfl ?_
                          refine g_iadd F dX8_copy_132 ?_
                          refine g_iload F dX8_copy_133 0 rfl ?_
                          refine g_iadd F dX8_copy_135 ?_
                          refine g_aload_n F dX8_copy_136 rfl 1 rfl ?_
                          refine gg_Model_items F fk_X8_28 dX8_copy_137 ?_
                          refine g_bipush F dX8_copy_140 (40) (by decide) ?_
                          refine g_iload_n F dX8_copy_142 rfl 2 rfl ?_
                          refine g_imul F dX8_copy_143 ?_
                          refine g_iload_n F dX8_copy_144 rfl 3 rfl ?_
                          refine g_iadd F dX8_copy_145 ?_
                          refine g_iload F dX8_copy_146 0 rfl ?_
                          refine g_iadd F dX8_copy_148 ?_
                          refine ga_46 F (by omega) dX8_copy_149 ?_
                          refine g_topi (b := y 46 (40 * r + i + (((n) - (1)) - (q)))) (cpY_at _ (by (first | (rw [if_pos hc, if_pos hc]; omega) | (rw [if_neg hc, if_neg hc]; omega)))) ?_
                          refine gs_46 F (by omega) dX8_copy_150 ?_
                          refine g_iinc F [(7, .int (J (q + 1))), (8, .int (J (((n) - (1)) - (q)))), (0, .ref (ad 8 (0))), (1, .int (J (r))), (2, .int (J (i))), (3, .int (J (t))), (4, .int (J (j))), (5, .int (J (n))), (6, .int (J (bk)))] 8 rfl dX8_copy_151 (by decide) rfl ?_
                          refine g_goto F 96 dX8_copy_154 rfl ?_
                          refine g_sub [2, 3, 4, 5, 6, 7, 8, 0] (lv' := [(0, .ref (ad 8 (0))), (1, .int (J (r))), (2, .int (J (i))), (3, .int (J (t))), (4, .int (J (j))), (5, .int (J (n))), (6, .int (J (bk))), (7, .int (J (q + 1)))]) rfl ?_
                          exact gW_eq (ih96 (bk) (q + 1) (by omega) (by omega) (by omega)) rfl rfl rfl (rfl) (by first | exact cp_b hc (by omega) | exact cp_f hc (by omega))
                  refine g_sub [2, 3, 4, 5, 6, 7, 1, 0] (lv' := [(0, .ref (ad 8 (0))), (1, .int (J (r))), (2, .int (J (i))), (3, .int (J (t))), (4, .int (J (j))), (5, .int (J (n))), (6, .int (J (0))), (7, .int (J (0)))]) rfl ?_
                  exact gW_eq (L96 _ (0) (0) (by omega) (by omega) (Nat.lt_succ_self _)) rfl rfl rfl (rfl) (cp_0.symm)
                · skip
                  refine g_iconst F dX8_copy_86 (1) (by decide) ?_
                  refine g_goto F 91 dX8_copy_87 rfl ?_
                  refine g_istore F [(6, .int (J (1))), (0, .ref (ad 8 (0))), (1, .int (J (r))), (2, .int (J (i))), (3, .int (J (t))), (4, .int (J (j))), (5, .int (J (n)))] dX8_copy_91 (by decide) rfl ?_
                  refine g_iconst F dX8_copy_93 (0) (by decide) ?_
                  refine g_istore F [(7, .int (J (0))), (6, .int (J (1))), (0, .ref (ad 8 (0))), (1, .int (J (r))), (2, .int (J (i))), (3, .int (J (t))), (4, .int (J (j))), (5, .int (J (n)))] dX8_copy_94 (by decide) rfl ?_
                  have L96 : ∀ (N : Nat) (bk : Int) (q : Int), 0 ≤ q ∧ q ≤ n → (bk = 1 ∧ i < j) ∨ (bk = 0 ∧ ¬ i < j) → (n - q).toNat < N → gW Θ l D ad 9 96 [(0, .ref (ad 8 (0))), (1, .int (J (r))), (2, .int (J (i))), (3, .int (J (t))), (4, .int (J (j))), (5, .int (J (n))), (6, .int (J (bk))), (7, .int (J (q)))] [] x (cpY y (40 * r + i) (40 * t + j) (if i < j then n - q else 0) (if i < j then n else q)) := by
                    intro N
                    induction N with
                    | zero => intro bk q hq hbk hFu; omega
                    | succ N ih96 =>
                      intro bk q hq hbk hFu
                      refine g_iload F dX8_copy_96 7 rfl ?_
                      refine g_iload F dX8_copy_98 5 rfl ?_
                      refine g_icmp_ge 157 F dX8_copy_100 (by omega) (by omega) rfl (fun c_11 => ?_) (fun c_11 => ?_)
                      · skip
                        refine g_iconst F dX8_copy_157 (1) (by decide) ?_
                        exact g_ireturn F hR dX8_copy_158 (pH_z (by unfold sCopy; first | (rw [if_pos (by omega)]; done) | (rw [if_neg (by omega), if_pos (by omega)]; done) | (rw [if_neg (by omega), if_neg (by omega), if_pos (by omega)]; done) | (rw [if_neg (by omega), if_neg (by omega), if_neg (by omega), if_pos (by omega)]; done) | (rw [if_neg (by omega), if_neg (by omega), if_neg (by omega), if_neg (by omega)]; done)) (by unfold sCopy; first | (rw [if_pos (by omega)]; exact hRel) | (rw [if_neg (by omega), if_pos (by omega)]; exact Rel_find hRel (by decide)) | (rw [if_neg (by omega), if_neg (by omega), if_pos (by omega)]; exact Rel_find hRel (by decide)) | (rw [if_neg (by omega), if_neg (by omega), if_neg (by omega), if_pos (by omega)]; exact Rel_find hRel (by decide)) | (rw [if_neg (by omega), if_neg (by omega), if_neg (by omega), if_neg (by omega)]; have e := Rel_copy hRel (r := r) (i := i) (t := t) (j := j) (n := n) (by omega) (by omega) (by omega) (by omega) (by omega); rw [show q = n by omega]; (have e2 : (if i < j then n - n else 0) = 0 := by split <;> omega); (have e3 : (if i < j then n else n) = n := by split <;> rfl); rw [e2, e3]; exact e)) rfl)
                      · skip
                        refine g_iload F dX8_copy_103 6 rfl ?_
                        refine g_if_eq 118 F dX8_copy_105 (by omega) rfl (fun c_12 => ?_) (fun c_12 => ?_)
                        · skip
                          have hc : ¬ i < j := by omega
                          refine g_iload F dX8_copy_118 7 rfl ?_
                          refine g_istore F [(8, .int (J (q))), (0, .ref (ad 8 (0))), (1, .int (J (r))), (2, .int (J (i))), (3, .int (J (t))), (4, .int (J (j))), (5, .int (J (n))), (6, .int (J (bk))), (7, .int (J (q)))] dX8_copy_120 (by decide) rfl ?_
                          refine g_aload_n F dX8_copy_122 rfl 1 rfl ?_
                          refine gg_Model_items F fk_X8_28 dX8_copy_123 ?_
                          refine g_bipush F dX8_copy_126 (40) (by decide) ?_
                          refine g_iload_n F dX8_copy_128 rfl 4 rfl ?_
                          refine g_imul F dX8_copy_129 ?_
                          refine g_iload F dX8_copy_130 5 rfl ?_
                          refine g_iadd F dX8_copy_132 ?_
                          refine g_iload F dX8_copy_133 0 rfl ?_
                          refine g_iadd F dX8_copy_135 ?_
                          refine g_aload_n F dX8_copy_136 rfl 1 rfl ?_
                          refine gg_Model_items F fk_X8_28 dX8_copy_137 ?_
                          refine g_bipush F dX8_copy_140 (40) (by decide) ?_
                          refine g_iload_n F dX8_copy_142 rfl 2 rfl ?_
                          refine g_imul F dX8_copy_143 ?_
                          refine g_iload_n F dX8_copy_144 rfl 3 rfl ?_
                          refine g_iadd F dX8_copy_145 ?_
                          refine g_iload F dX8_copy_146 0 rfl ?_
                          refine g_iadd F dX8_copy_148 ?_
                          refine ga_46 F (by omega) dX8_copy_149 ?_
                          refine g_topi (b := y 46 (40 * r + i + (q))) (cpY_at _ (by (first | (rw [if_pos hc, if_pos hc]; omega) | (rw [if_neg hc, if_neg hc]; omega)))) ?_
                          refine gs_46 F (by omega) dX8_copy_150 ?_
                          refine g_iinc F [(7, .int (J (q + 1))), (8, .int (J (q))), (0, .ref (ad 8 (0))), (1, .int (J (r))), (2, .int (J (i))), (3, .int (J (t))), (4, .int (J (j))), (5, .int (J (n))), (6, .int (J (bk)))] 8 rfl dX8_copy_151 (by decide) rfl ?_
                          refine g_goto F 96 dX8_copy_154 rfl ?_
                          refine g_sub [2, 3, 4, 5, 6, 7, 8, 0] (lv' := [(0, .ref (ad 8 (0))), (1, .int (J (r))), (2, .int (J (i))), (3, .int (J (t))), (4, .int (J (j))), (5, .int (J (n))), (6, .int (J (bk))), (7, .int (J (q + 1)))]) rfl ?_
                          exact gW_eq (ih96 (bk) (q + 1) (by omega) (by omega) (by omega)) rfl rfl rfl (rfl) (by first | exact cp_b hc (by omega) | exact cp_f hc (by omega))
                        · skip
                          have hc : i < j := by omega
                          refine g_iload F dX8_copy_108 5 rfl ?_
                          refine g_iconst F dX8_copy_110 (1) (by decide) ?_
                          refine g_isub F dX8_copy_111 ?_
                          refine g_iload F dX8_copy_112 7 rfl ?_
                          refine g_isub F dX8_copy_114 ?_
                          refine g_goto F 120 dX8_copy_115 rfl ?_
                          refine g_istore F [(8, .int (J (((n) - (1)) - (q)))), (0, .ref (ad 8 (0))), (1, .int (J (r))), (2, .int (J (i))), (3, .int (J (t))), (4, .int (J (j))), (5, .int (J (n))), (6, .int (J (bk))), (7, .int (J (q)))] dX8_copy_120 (by decide) rfl ?_
                          refine g_aload_n F dX8_copy_122 rfl 1 rfl ?_
                          refine gg_Model_items F fk_X8_28 dX8_copy_123 ?_
                          refine g_bipush F dX8_copy_126 (40) (by decide) ?_
                          refine g_iload_n F dX8_copy_128 rfl 4 rfl ?_
                          refine g_imul F dX8_copy_129 ?_
                          refine g_iload F dX8_copy_130 5 rfl ?_
                          refine g_iadd F dX8_copy_132 ?_
                          refine g_iload F dX8_copy_133 0 rfl ?_
                          refine g_iadd F dX8_copy_135 ?_
                          refine g_aload_n F dX8_copy_136 rfl 1 rfl ?_
                          refine gg_Model_items F fk_X8_28 dX8_copy_137 ?_
                          refine g_bipush F dX8_copy_140 (40) (by decide) ?_
                          refine g_iload_n F dX8_copy_142 rfl 2 rfl ?_
                          refine g_imul F dX8_copy_143 ?_
                          refine g_iload_n F dX8_copy_144 rfl 3 rfl ?_
                          refine g_iadd F dX8_copy_145 ?_
                          refine g_iload F dX8_copy_146 0 rfl ?_
                          refine g_iadd F dX8_copy_148 ?_
                          refine ga_46 F (by omega) dX8_copy_149 ?_
                          refine g_topi (b := y 46 (40 * r + i + (((n) - (1)) - (q)))) (cpY_at _ (by (first | (rw [if_pos hc, if_pos hc]; omega) | (rw [if_neg hc, if_neg hc]; omega)))) ?_
                          refine gs_46 F (by omega) dX8_copy_150 ?_
                          refine g_iinc F [(7, .int (J (q + 1))), (8, .int (J (((n) - (1)) - (q)))), (0, .ref (ad 8 (0))), (1, .int (J (r))), (2, .int (J (i))), (3, .int (J (t))), (4, .int (J (j))), (5, .int (J (n))), (6, .int (J (bk)))] 8 rfl dX8_copy_151 (by decide) rfl ?_
                          refine g_goto F 96 dX8_copy_154 rfl ?_
                          refine g_sub [2, 3, 4, 5, 6, 7, 8, 0] (lv' := [(0, .ref (ad 8 (0))), (1, .int (J (r))), (2, .int (J (i))), (3, .int (J (t))), (4, .int (J (j))), (5, .int (J (n))), (6, .int (J (bk))), (7, .int (J (q + 1)))]) rfl ?_
                          exact gW_eq (ih96 (bk) (q + 1) (by omega) (by omega) (by omega)) rfl rfl rfl (rfl) (by first | exact cp_b hc (by omega) | exact cp_f hc (by omega))
                  refine g_sub [2, 3, 4, 5, 6, 7, 1, 0] (lv' := [(0, .ref (ad 8 (0))), (1, .int (J (r))), (2, .int (J (i))), (3, .int (J (t))), (4, .int (J (j))), (5, .int (J (n))), (6, .int (J (1))), (7, .int (J (0)))]) rfl ?_
                  exact gW_eq (L96 _ (1) (0) (by omega) (by omega) (Nat.lt_succ_self _)) rfl rfl rfl (rfl) (cp_0.symm)
              · skip
                refine g_aload_n F dX8_copy_74 rfl 0 rfl ?_
                refine g_iconst F dX8_copy_75 (2) (by decide) ?_
                refine g_callV 1 F (As := [.int (J (2))]) (st := []) (c_X8_find l D ad x y (2) (by omega)) (gR_8) rfl mk_X8_84 ki_X8_find kc_X8_find (by decide +kernel) rfl (by decide) dX8_copy_76 rfl (Nat.le_of_ble_eq_true rfl) (pI_k ?_)
                exact g_ireturn F hR dX8_copy_79 (pH_z (by unfold sCopy; first | (rw [if_pos (by omega)]; done) | (rw [if_neg (by omega), if_pos (by omega)]; done) | (rw [if_neg (by omega), if_neg (by omega), if_pos (by omega)]; done) | (rw [if_neg (by omega), if_neg (by omega), if_neg (by omega), if_pos (by omega)]; done) | (rw [if_neg (by omega), if_neg (by omega), if_neg (by omega), if_neg (by omega)]; done)) (by unfold sCopy; first | (rw [if_pos (by omega)]; exact hRel) | (rw [if_neg (by omega), if_pos (by omega)]; exact Rel_find hRel (by decide)) | (rw [if_neg (by omega), if_neg (by omega), if_pos (by omega)]; exact Rel_find hRel (by decide)) | (rw [if_neg (by omega), if_neg (by omega), if_neg (by omega), if_pos (by omega)]; exact Rel_find hRel (by decide)) | (rw [if_neg (by omega), if_neg (by omega), if_neg (by omega), if_neg (by omega)]; have e := Rel_copy hRel (r := r) (i := i) (t := t) (j := j) (n := n) (by omega) (by omega) (by omega) (by omega) (by omega); rw [show q = n by omega]; (have e2 : (if i < j then n - n else 0) = 0 := by split <;> omega); (have e3 : (if i < j then n else n) = n := by split <;> rfl); rw [e2, e3]; exact e)) rfl)
          · skip
            refine g_aload_n F dX8_copy_45 rfl 0 rfl ?_
            refine g_iconst F dX8_copy_46 (1) (by decide) ?_
            refine g_callV 1 F (As := [.int (J (1))]) (st := []) (c_X8_find l D ad x y (1) (by omega)) (gR_8) rfl mk_X8_84 ki_X8_find kc_X8_find (by decide +kernel) rfl (by decide) dX8_copy_47 rfl (Nat.le_of_ble_eq_true rfl) (pI_k ?_)
            exact g_ireturn F hR dX8_copy_50 (pH_z (by unfold sCopy; first | (rw [if_pos (by omega)]; done) | (rw [if_neg (by omega), if_pos (by omega)]; done) | (rw [if_neg (by omega), if_neg (by omega), if_pos (by omega)]; done) | (rw [if_neg (by omega), if_neg (by omega), if_neg (by omega), if_pos (by omega)]; done) | (rw [if_neg (by omega), if_neg (by omega), if_neg (by omega), if_neg (by omega)]; done)) (by unfold sCopy; first | (rw [if_pos (by omega)]; exact hRel) | (rw [if_neg (by omega), if_pos (by omega)]; exact Rel_find hRel (by decide)) | (rw [if_neg (by omega), if_neg (by omega), if_pos (by omega)]; exact Rel_find hRel (by decide)) | (rw [if_neg (by omega), if_neg (by omega), if_neg (by omega), if_pos (by omega)]; exact Rel_find hRel (by decide)) | (rw [if_neg (by omega), if_neg (by omega), if_neg (by omega), if_neg (by omega)]; have e := Rel_copy hRel (r := r) (i := i) (t := t) (j := j) (n := n) (by omega) (by omega) (by omega) (by omega) (by omega); rw [show q = n by omega]; (have e2 : (if i < j then n - n else 0) = 0 := by split <;> omega); (have e3 : (if i < j then n else n) = n := by split <;> rfl); rw [e2, e3]; exact e)) rfl)
      · skip
        refine g_aload_n F dX8_copy_21 rfl 0 rfl ?_
        refine g_iconst F dX8_copy_22 (5) (by decide) ?_
        refine g_callV 1 F (As := [.int (J (5))]) (st := []) (c_X8_find l D ad x y (5) (by omega)) (gR_8) rfl mk_X8_84 ki_X8_find kc_X8_find (by decide +kernel) rfl (by decide) dX8_copy_23 rfl (Nat.le_of_ble_eq_true rfl) (pI_k ?_)
        exact g_ireturn F hR dX8_copy_26 (pH_z (by unfold sCopy; first | (rw [if_pos (by omega)]; done) | (rw [if_neg (by omega), if_pos (by omega)]; done) | (rw [if_neg (by omega), if_neg (by omega), if_pos (by omega)]; done) | (rw [if_neg (by omega), if_neg (by omega), if_neg (by omega), if_pos (by omega)]; done) | (rw [if_neg (by omega), if_neg (by omega), if_neg (by omega), if_neg (by omega)]; done)) (by unfold sCopy; first | (rw [if_pos (by omega)]; exact hRel) | (rw [if_neg (by omega), if_pos (by omega)]; exact Rel_find hRel (by decide)) | (rw [if_neg (by omega), if_neg (by omega), if_pos (by omega)]; exact Rel_find hRel (by decide)) | (rw [if_neg (by omega), if_neg (by omega), if_neg (by omega), if_pos (by omega)]; exact Rel_find hRel (by decide)) | (rw [if_neg (by omega), if_neg (by omega), if_neg (by omega), if_neg (by omega)]; have e := Rel_copy hRel (r := r) (i := i) (t := t) (j := j) (n := n) (by omega) (by omega) (by omega) (by omega) (by omega); rw [show q = n by omega]; (have e2 : (if i < j then n - n else 0) = 0 := by split <;> omega); (have e3 : (if i < j then n else n) = n := by split <;> rfl); rw [e2, e3]; exact e)) rfl)
    · skip
      refine g_iconst F dX8_copy_14 (-1) (by decide) ?_
      exact g_ireturn F hR dX8_copy_15 (pH_z (by unfold sCopy; first | (rw [if_pos (by omega)]; done) | (rw [if_neg (by omega), if_pos (by omega)]; done) | (rw [if_neg (by omega), if_neg (by omega), if_pos (by omega)]; done) | (rw [if_neg (by omega), if_neg (by omega), if_neg (by omega), if_pos (by omega)]; done) | (rw [if_neg (by omega), if_neg (by omega), if_neg (by omega), if_neg (by omega)]; done)) (by unfold sCopy; first | (rw [if_pos (by omega)]; exact hRel) | (rw [if_neg (by omega), if_pos (by omega)]; exact Rel_find hRel (by decide)) | (rw [if_neg (by omega), if_neg (by omega), if_pos (by omega)]; exact Rel_find hRel (by decide)) | (rw [if_neg (by omega), if_neg (by omega), if_neg (by omega), if_pos (by omega)]; exact Rel_find hRel (by decide)) | (rw [if_neg (by omega), if_neg (by omega), if_neg (by omega), if_neg (by omega)]; have e := Rel_copy hRel (r := r) (i := i) (t := t) (j := j) (n := n) (by omega) (by omega) (by omega) (by omega) (by omega); rw [show q = n by omega]; (have e2 : (if i < j then n - n else 0) = 0 := by split <;> omega); (have e3 : (if i < j then n else n) = n := by split <;> rfl); rw [e2, e3]; exact e)) rfl)

set_option maxRecDepth 20000 in
theorem c_X8_mean (l : Launch) (D : gD) (ad : gA) (x : gX) (y : gY) (z : gX) (r : Int) (hr : i32 r) (hRel : Rel z y) : gC l D ad 2 yX8_mean cX8_mean 5 (some .int) [.ref (ad 8 (0)), .int (J (r))] x y (pH (.int (J ((sMean z r).1))) (x) (fun w => Rel (sMean z r).2 w)) := by
  refine g_met RX8 rfl (by decide +kernel) [(0, .ref (ad 8 (0))), (1, .int (J (r)))] rfl (Nat.le_of_ble_eq_true rfl) (fun Θ F hR => ?_)
  have hN := hRel.1.1
  have hRW := hRel.1.2.1
  have hDD := hRel.1.2.2.1
  have hST := hRel.2.1
  have hB := Rel_SB hRel
  have h10 := hN.2.1
  have h15 := hN.2.2.1
  refine g_iload_n F dX8_mean_0 rfl 1 rfl ?_
  refine g_callS 1 F (As := [.int (J (r))]) (st := []) (c_X8_isRow l D ad x y (r) (by omega)) rfl mk_X8_80 ki_X8_isRow kc_X8_isRow (by decide +kernel) rfl (by decide) dX8_mean_1 rfl (Nat.le_of_ble_eq_true rfl) (pB_k ?_)
  refine g_ifb_ne 9 F dX8_mean_4 rfl (fun c_1 => ?_) (fun c_1 => ?_)
  · skip
    have hw := hRW (r) (by omega) (by omega)
    have hw2 : -1 ≤ z 17 (r) 0 ∧ z 17 (r) 0 ≤ 60 := by have := hw.1; split at this <;> omega
    refine g_aload_n F dX8_mean_9 rfl 0 rfl ?_
    refine gg_Model_sizes F fk_X8_25 dX8_mean_10 ?_
    refine g_iload_n F dX8_mean_13 rfl 1 rfl ?_
    refine ga_45 F (by omega) dX8_mean_14 ?_
    refine g_topi (b := z 17 (r) 0) ((hRel.2.2.2.1.1 _ (by omega) (by omega)).1) ?_
    refine g_if_ge 24 F dX8_mean_15 (by omega) rfl (fun c_2 => ?_) (fun c_2 => ?_)
    · skip
      refine g_aload_n F dX8_mean_24 rfl 0 rfl ?_
      refine gg_Model_sizes F fk_X8_25 dX8_mean_25 ?_
      refine g_iload_n F dX8_mean_28 rfl 1 rfl ?_
      refine ga_45 F (by omega) dX8_mean_29 ?_
      refine g_topi (b := z 17 (r) 0) ((hRel.2.2.2.1.1 _ (by omega) (by omega)).1) ?_
      refine g_if_ne 39 F dX8_mean_30 (by omega) rfl (fun c_3 => ?_) (fun c_3 => ?_)
      · skip
        refine g_lconst F dX8_mean_39 0 (by decide) ?_
        refine g_lstore_n F [(2, .long (Lg (0))), (0, .ref (ad 8 (0))), (1, .int (J (r)))] dX8_mean_40 rfl (by decide) rfl ?_
        refine g_iconst F dX8_mean_41 (0) (by decide) ?_
        refine g_istore F [(4, .int (J (0))), (2, .long (Lg (0))), (0, .ref (ad 8 (0))), (1, .int (J (r)))] dX8_mean_42 (by decide) rfl ?_
        have L44 : ∀ (N : Nat) (a : Int) (j : Int), 0 ≤ j ∧ j ≤ z 17 r 0 → a = sumZ (fun q => z 20 r q) j → (z 17 r 0 - j).toNat < N → gW Θ l D ad 5 44 [(0, .ref (ad 8 (0))), (1, .int (J (r))), (2, .long (Lg (a))), (4, .int (J (j)))] [] x y := by
          intro N
          induction N with
          | zero => intro a j hj ha hFu; omega
          | succ N ih44 =>
            intro a j hj ha hFu
            refine g_iload F dX8_mean_44 3 rfl ?_
            refine g_aload_n F dX8_mean_46 rfl 0 rfl ?_
            refine gg_Model_sizes F fk_X8_25 dX8_mean_47 ?_
            refine g_iload_n F dX8_mean_50 rfl 1 rfl ?_
            refine ga_45 F (by omega) dX8_mean_51 ?_
            refine g_topi (b := z 17 (r) 0) ((hRel.2.2.2.1.1 _ (by omega) (by omega)).1) ?_
            refine g_icmp_ge 77 F dX8_mean_52 (by omega) (by omega) rfl (fun c_4 => ?_) (fun c_4 => ?_)
            · skip
              have hsr : -2147483648 * z 17 r 0 ≤ sumZ (fun q => z 20 r q) (z 17 r 0) ∧ sumZ (fun q => z 20 r q) (z 17 r 0) ≤ 2147483647 * z 17 r 0 := sumZ_range (by omega) (fun q _ _ => by have := hw.2.1 q; omega)
              have ha2 : a = sumZ (fun q => z 20 r q) (z 17 r 0) := ha.trans (by rw [show j = z 17 r 0 by omega])
              refine g_aload_n F dX8_mean_77 rfl 0 rfl ?_
              refine g_lload_n F dX8_mean_78 rfl 2 rfl ?_
              refine g_aload_n F dX8_mean_79 rfl 0 rfl ?_
              refine gg_Model_sizes F fk_X8_25 dX8_mean_80 ?_
              refine g_iload_n F dX8_mean_83 rfl 1 rfl ?_
              refine ga_45 F (by omega) dX8_mean_84 ?_
              refine g_topi (b := z 17 (r) 0) ((hRel.2.2.2.1.1 _ (by omega) (by omega)).1) ?_
              refine g_i2l F dX8_mean_85 (by omega) ?_
              refine g_ldiv F dX8_mean_86 (by omega) (by omega) (by omega) ?_
              refine g_l2i F dX8_mean_87 ?_
              refine g_callV 1 F (As := [.int (J ((a).tdiv (z 17 (r) 0)))]) (st := []) (c_X8_tell l D ad x y ((a).tdiv (z 17 (r) 0)) ) (gR_8) rfl mk_X8_96 ki_X8_tell kc_X8_tell (by decide +kernel) rfl (by decide) dX8_mean_88 rfl (Nat.le_of_ble_eq_true rfl) (pI_k ?_)
              exact g_ireturn F hR dX8_mean_91 (pH_z (by unfold sMean; first | (rw [mRf_a (by omega)]; exact rfl) | (rw [mRf_b (by omega) (by omega)]; exact rfl) | (rw [mRf_c (by omega) (by omega)]; first | (show _ = (if z 17 r 0 = 0 then _ else _ : Int × gX).1; rw [if_pos (by omega)]; done) | (show _ = (if z 17 r 0 = 0 then _ else _ : Int × gX).1; rw [if_neg (by omega)]; done))) (by unfold sMean; first | (rw [mRf_a (by omega)]; exact hRel) | (rw [mRf_b (by omega) (by omega)]; exact Rel_find hRel (by decide)) | (rw [mRf_c (by omega) (by omega)]; first | (show Rel (if z 17 r 0 = 0 then _ else _ : Int × gX).2 _; rw [if_pos (by omega)]; exact Rel_find hRel (by decide)) | (show Rel (if z 17 r 0 = 0 then _ else _ : Int × gX).2 _; rw [if_neg (by omega), ← ha2]; exact Rel_tell hRel _))) rfl)
            · skip
              refine g_lload_n F dX8_mean_55 rfl 2 rfl ?_
              refine g_aload_n F dX8_mean_56 rfl 0 rfl ?_
              refine gg_Model_items F fk_X8_28 dX8_mean_57 ?_
              refine g_bipush F dX8_mean_60 (40) (by decide) ?_
              refine g_iload_n F dX8_mean_62 rfl 1 rfl ?_
              refine g_imul F dX8_mean_63 ?_
              refine g_iload F dX8_mean_64 3 rfl ?_
              refine g_iadd F dX8_mean_66 ?_
              refine ga_46 F (by omega) dX8_mean_67 ?_
              refine g_topi (b := z 20 (r) (j)) ((hRel.2.2.2.1.1 _ (by omega) (by omega)).2 _ (by omega) (by omega)) ?_
              refine g_i2l F dX8_mean_68 (hw.2.1 j) ?_
              refine g_ladd F dX8_mean_69 ?_
              refine g_lstore_n F [(2, .long (Lg ((a) + (z 20 (r) (j))))), (0, .ref (ad 8 (0))), (1, .int (J (r))), (4, .int (J (j)))] dX8_mean_70 rfl (by decide) rfl ?_
              refine g_iinc F [(4, .int (J (j + 1))), (2, .long (Lg ((a) + (z 20 (r) (j))))), (0, .ref (ad 8 (0))), (1, .int (J (r)))] 3 rfl dX8_mean_71 (by decide) rfl ?_
              refine g_goto F 44 dX8_mean_74 rfl ?_
              refine g_sub [2, 3, 1, 0] (lv' := [(0, .ref (ad 8 (0))), (1, .int (J (r))), (2, .long (Lg ((a) + (z 20 (r) (j))))), (4, .int (J (j + 1)))]) rfl ?_
              exact ih44 ((a) + (z 20 (r) (j))) (j + 1) (by omega) (by rw [sumZ_s _ (by omega), ← ha]) (by omega)
        refine g_sub [2, 3, 1, 0] (lv' := [(0, .ref (ad 8 (0))), (1, .int (J (r))), (2, .long (Lg (0))), (4, .int (J (0)))]) rfl ?_
        exact L44 _ (0) (0) (by omega) (rfl) (Nat.lt_succ_self _)
      · skip
        refine g_aload_n F dX8_mean_33 rfl 0 rfl ?_
        refine g_iconst F dX8_mean_34 (4) (by decide) ?_
        refine g_callV 1 F (As := [.int (J (4))]) (st := []) (c_X8_find l D ad x y (4) (by omega)) (gR_8) rfl mk_X8_84 ki_X8_find kc_X8_find (by decide +kernel) rfl (by decide) dX8_mean_35 rfl (Nat.le_of_ble_eq_true rfl) (pI_k ?_)
        exact g_ireturn F hR dX8_mean_38 (pH_z (by unfold sMean; first | (rw [mRf_a (by omega)]; exact rfl) | (rw [mRf_b (by omega) (by omega)]; exact rfl) | (rw [mRf_c (by omega) (by omega)]; first | (show _ = (if z 17 r 0 = 0 then _ else _ : Int × gX).1; rw [if_pos (by omega)]; done) | (show _ = (if z 17 r 0 = 0 then _ else _ : Int × gX).1; rw [if_neg (by omega)]; done))) (by unfold sMean; first | (rw [mRf_a (by omega)]; exact hRel) | (rw [mRf_b (by omega) (by omega)]; exact Rel_find hRel (by decide)) | (rw [mRf_c (by omega) (by omega)]; first | (show Rel (if z 17 r 0 = 0 then _ else _ : Int × gX).2 _; rw [if_pos (by omega)]; exact Rel_find hRel (by decide)) | (show Rel (if z 17 r 0 = 0 then _ else _ : Int × gX).2 _; rw [if_neg (by omega), ← ha2]; exact Rel_tell hRel _))) rfl)
    · skip
      refine g_aload_n F dX8_mean_18 rfl 0 rfl ?_
      refine g_iconst F dX8_mean_19 (1) (by decide) ?_
      refine g_callV 1 F (As := [.int (J (1))]) (st := []) (c_X8_find l D ad x y (1) (by omega)) (gR_8) rfl mk_X8_84 ki_X8_find kc_X8_find (by decide +kernel) rfl (by decide) dX8_mean_20 rfl (Nat.le_of_ble_eq_true rfl) (pI_k ?_)
      exact g_ireturn F hR dX8_mean_23 (pH_z (by unfold sMean; first | (rw [mRf_a (by omega)]; exact rfl) | (rw [mRf_b (by omega) (by omega)]; exact rfl) | (rw [mRf_c (by omega) (by omega)]; first | (show _ = (if z 17 r 0 = 0 then _ else _ : Int × gX).1; rw [if_pos (by omega)]; done) | (show _ = (if z 17 r 0 = 0 then _ else _ : Int × gX).1; rw [if_neg (by omega)]; done))) (by unfold sMean; first | (rw [mRf_a (by omega)]; exact hRel) | (rw [mRf_b (by omega) (by omega)]; exact Rel_find hRel (by decide)) | (rw [mRf_c (by omega) (by omega)]; first | (show Rel (if z 17 r 0 = 0 then _ else _ : Int × gX).2 _; rw [if_pos (by omega)]; exact Rel_find hRel (by decide)) | (show Rel (if z 17 r 0 = 0 then _ else _ : Int × gX).2 _; rw [if_neg (by omega), ← ha2]; exact Rel_tell hRel _))) rfl)
  · skip
    refine g_iconst F dX8_mean_7 (-1) (by decide) ?_
    exact g_ireturn F hR dX8_mean_8 (pH_z (by unfold sMean; first | (rw [mRf_a (by omega)]; exact rfl) | (rw [mRf_b (by omega) (by omega)]; exact rfl) | (rw [mRf_c (by omega) (by omega)]; first | (show _ = (if z 17 r 0 = 0 then _ else _ : Int × gX).1; rw [if_pos (by omega)]; done) | (show _ = (if z 17 r 0 = 0 then _ else _ : Int × gX).1; rw [if_neg (by omega)]; done))) (by unfold sMean; first | (rw [mRf_a (by omega)]; exact hRel) | (rw [mRf_b (by omega) (by omega)]; exact Rel_find hRel (by decide)) | (rw [mRf_c (by omega) (by omega)]; first | (show Rel (if z 17 r 0 = 0 then _ else _ : Int × gX).2 _; rw [if_pos (by omega)]; exact Rel_find hRel (by decide)) | (show Rel (if z 17 r 0 = 0 then _ else _ : Int × gX).2 _; rw [if_neg (by omega), ← ha2]; exact Rel_tell hRel _))) rfl)

set_option maxRecDepth 20000 in
theorem c_X8_text (l : Launch) (D : gD) (ad : gA) (x : gX) (y : gY) (z : gX) (r n : Int) (hr : i32 r) (hn : i32 n) (hRel : Rel z y) : gC l D ad 2 yX8_text cX8_text 4 (some .int) [.ref (ad 8 (0)), .int (J (r)), .int (J (n))] x y (pH (.int (J ((lRf z 4 (6 + r) 60 r n 32).1))) (x) (fun w => Rel (lRf z 4 (6 + r) 60 r n 32).2 w)) := by
  refine g_met RX8 rfl (by decide +kernel) [(0, .ref (ad 8 (0))), (1, .int (J (r))), (2, .int (J (n)))] rfl (Nat.le_of_ble_eq_true rfl) (fun Θ F hR => ?_)
  have hN := hRel.1.1
  have hRW := hRel.1.2.1
  have hDD := hRel.1.2.2.1
  have hST := hRel.2.1
  have hB := Rel_SB hRel
  have h10 := hN.2.1
  have h15 := hN.2.2.1
  refine g_iload_n F dX8_text_0 rfl 1 rfl ?_
  refine g_callS 1 F (As := [.int (J (r))]) (st := []) (c_X8_isText l D ad x y (r) (by omega)) rfl mk_X8_103 ki_X8_isText kc_X8_isText (by decide +kernel) rfl (by decide) dX8_text_1 rfl (Nat.le_of_ble_eq_true rfl) (pB_k ?_)
  refine g_ifb_eq 13 F dX8_text_4 rfl (fun c_1 => ?_) (fun c_1 => ?_)
  · skip
    refine g_iconst F dX8_text_13 (-1) (by decide) ?_
    exact g_ireturn F hR dX8_text_14 (pH_z (by unfold lRf; (repeat' split) <;> first | rfl | (exfalso; omega)) (by unfold lRf; (repeat' split) <;> first | exact hRel | exact Rel_find hRel (by decide) | (rw [show j = 60 by omega]; exact Rel_text hRel (by omega) (by omega)) | (exfalso; omega)) rfl)
  · skip
    refine g_iload_n F dX8_text_7 rfl 2 rfl ?_
    refine g_bipush F dX8_text_8 (60) (by decide) ?_
    refine g_icmp_le 15 F dX8_text_10 (by omega) (by decide) rfl (fun c_2 => ?_) (fun c_2 => ?_)
    · skip
      refine g_iload_n F dX8_text_15 rfl 2 rfl ?_
      refine g_if_ge 25 F dX8_text_16 (by omega) rfl (fun c_3 => ?_) (fun c_3 => ?_)
      · skip
        refine g_aload_n F dX8_text_25 rfl 0 rfl ?_
        refine gg_Model_lengths F fk_X8_31 dX8_text_26 ?_
        refine g_iload_n F dX8_text_29 rfl 1 rfl ?_
        refine g_iload_n F dX8_text_30 rfl 2 rfl ?_
        refine gs_47 F (by omega) dX8_text_31 ?_
        refine g_iconst F dX8_text_32 (0) (by decide) ?_
        refine g_istore_n F [(3, .int (J (0))), (0, .ref (ad 8 (0))), (1, .int (J (r))), (2, .int (J (n)))] dX8_text_33 rfl (by decide) rfl ?_
        have L34 : ∀ (N : Nat) (j : Int), 0 ≤ j ∧ j ≤ 60 → (60 - j).toNat < N → gW Θ l D ad 4 34 [(0, .ref (ad 8 (0))), (1, .int (J (r))), (2, .int (J (n))), (3, .int (J (j)))] [] x (zrM (yU y 47 r n) 48 (60 * r) 32 j) := by
          intro N
          induction N with
          | zero => intro j hj hFu; omega
          | succ N ih34 =>
            intro j hj hFu
            refine g_iload_n F dX8_text_34 rfl 3 rfl ?_
            refine g_bipush F dX8_text_35 (60) (by decide) ?_
            refine g_icmp_ge 59 F dX8_text_37 (by omega) (by decide) rfl (fun c_4 => ?_) (fun c_4 => ?_)
            · skip
              refine g_iload_n F dX8_text_59 rfl 2 rfl ?_
              exact g_ireturn F hR dX8_text_60 (pH_z (by unfold lRf; (repeat' split) <;> first | rfl | (exfalso; omega)) (by unfold lRf; (repeat' split) <;> first | exact hRel | exact Rel_find hRel (by decide) | (rw [show j = 60 by omega]; exact Rel_text hRel (by omega) (by omega)) | (exfalso; omega)) rfl)
            · skip
              refine g_aload_n F dX8_text_40 rfl 0 rfl ?_
              refine gg_Model_bytes F fk_X8_34 dX8_text_41 ?_
              refine g_bipush F dX8_text_44 (60) (by decide) ?_
              refine g_iload_n F dX8_text_46 rfl 1 rfl ?_
              refine g_imul F dX8_text_47 ?_
              refine g_iload_n F dX8_text_48 rfl 3 rfl ?_
              refine g_iadd F dX8_text_49 ?_
              refine g_bipush F dX8_text_50 (32) (by decide) ?_
              refine gs_48 F (by omega) dX8_text_52 ?_
              refine g_iinc F [(3, .int (J (j + 1))), (0, .ref (ad 8 (0))), (1, .int (J (r))), (2, .int (J (n)))] 3 rfl dX8_text_53 (by decide) rfl ?_
              refine g_goto F 34 dX8_text_56 rfl ?_
              refine g_sub [1, 2, 3, 0] (lv' := [(0, .ref (ad 8 (0))), (1, .int (J (r))), (2, .int (J (n))), (3, .int (J (j + 1)))]) rfl ?_
              exact gW_eq (ih34 (j + 1) (by omega) (by omega)) rfl rfl rfl (rfl) (zrM_s _ _ _ _ (by omega))
        refine g_sub [1, 2, 3, 0] (lv' := [(0, .ref (ad 8 (0))), (1, .int (J (r))), (2, .int (J (n))), (3, .int (J (0)))]) rfl ?_
        exact gW_eq (L34 _ (0) (by omega) (Nat.lt_succ_self _)) rfl rfl rfl (rfl) ((zrM_0 _ _ _ _).symm)
      · skip
        refine g_aload_n F dX8_text_19 rfl 0 rfl ?_
        refine g_iconst F dX8_text_20 (5) (by decide) ?_
        refine g_callV 1 F (As := [.int (J (5))]) (st := []) (c_X8_find l D ad x y (5) (by omega)) (gR_8) rfl mk_X8_84 ki_X8_find kc_X8_find (by decide +kernel) rfl (by decide) dX8_text_21 rfl (Nat.le_of_ble_eq_true rfl) (pI_k ?_)
        exact g_ireturn F hR dX8_text_24 (pH_z (by unfold lRf; (repeat' split) <;> first | rfl | (exfalso; omega)) (by unfold lRf; (repeat' split) <;> first | exact hRel | exact Rel_find hRel (by decide) | (rw [show j = 60 by omega]; exact Rel_text hRel (by omega) (by omega)) | (exfalso; omega)) rfl)
    · skip
      refine g_iconst F dX8_text_13 (-1) (by decide) ?_
      exact g_ireturn F hR dX8_text_14 (pH_z (by unfold lRf; (repeat' split) <;> first | rfl | (exfalso; omega)) (by unfold lRf; (repeat' split) <;> first | exact hRel | exact Rel_find hRel (by decide) | (rw [show j = 60 by omega]; exact Rel_text hRel (by omega) (by omega)) | (exfalso; omega)) rfl)

set_option maxRecDepth 20000 in
theorem c_X8_put (l : Launch) (D : gD) (ad : gA) (x : gX) (y : gY) (z : gX) (r i v : Int) (hr : i32 r) (hi : i32 i) (hv : i32 v) (hRel : Rel z y) : gC l D ad 2 yX8_put cX8_put 5 (some .int) [.ref (ad 8 (0)), .int (J (r)), .int (J (i)), .int (J (v))] x y (pH (.int (J ((sPut z r i v).1))) (x) (fun w => Rel (sPut z r i v).2 w)) := by
  refine g_met RX8 rfl (by decide +kernel) [(0, .ref (ad 8 (0))), (1, .int (J (r))), (2, .int (J (i))), (3, .int (J (v)))] rfl (Nat.le_of_ble_eq_true rfl) (fun Θ F hR => ?_)
  have hN := hRel.1.1
  have hRW := hRel.1.2.1
  have hDD := hRel.1.2.2.1
  have hST := hRel.2.1
  have hB := Rel_SB hRel
  have h10 := hN.2.1
  have h15 := hN.2.2.1
  refine g_iload_n F dX8_put_0 rfl 1 rfl ?_
  refine g_callS 1 F (As := [.int (J (r))]) (st := []) (c_X8_isText l D ad x y (r) (by omega)) rfl mk_X8_103 ki_X8_isText kc_X8_isText (by decide +kernel) rfl (by decide) dX8_put_1 rfl (Nat.le_of_ble_eq_true rfl) (pB_k ?_)
  refine g_ifb_ne 9 F dX8_put_4 rfl (fun c_1 => ?_) (fun c_1 => ?_)
  · skip
    have hw := hRW (6 + r) (by omega) (by omega)
    have hw2 : -1 ≤ z 17 (6 + r) 0 ∧ z 17 (6 + r) 0 ≤ 60 := by have := hw.1; split at this <;> omega
    refine g_aload_n F dX8_put_9 rfl 0 rfl ?_
    refine gg_Model_lengths F fk_X8_31 dX8_put_10 ?_
    refine g_iload_n F dX8_put_13 rfl 1 rfl ?_
    refine ga_47 F (by omega) dX8_put_14 ?_
    refine g_topi (b := z 17 (6 + (r)) 0) ((hRel.2.2.2.1.2 _ (by omega) (by omega)).1) ?_
    refine g_if_ge 24 F dX8_put_15 (by omega) rfl (fun c_2 => ?_) (fun c_2 => ?_)
    · skip
      refine g_iload_n F dX8_put_24 rfl 2 rfl ?_
      refine g_i2l F dX8_put_25 (by omega) ?_
      refine g_lconst F dX8_put_26 0 (by decide) ?_
      refine g_aload_n F dX8_put_27 rfl 0 rfl ?_
      refine gg_Model_lengths F fk_X8_31 dX8_put_28 ?_
      refine g_iload_n F dX8_put_31 rfl 1 rfl ?_
      refine ga_47 F (by omega) dX8_put_32 ?_
      refine g_topi (b := z 17 (6 + (r)) 0) ((hRel.2.2.2.1.2 _ (by omega) (by omega)).1) ?_
      refine g_iconst F dX8_put_33 (1) (by decide) ?_
      refine g_isub F dX8_put_34 ?_
      refine g_i2l F dX8_put_35 (by omega) ?_
      refine g_callS 3 F (As := [.long (Lg (i)), .long (Lg (0)), .long (Lg ((z 17 (6 + (r)) 0) - (1)))]) (st := []) (c_X8_in l D ad x y (i) (0) ((z 17 (6 + (r)) 0) - (1)) (by omega) (by omega) (by omega)) rfl mk_X8_74 ki_X8_in kc_X8_in (by decide +kernel) rfl (by decide) dX8_put_36 rfl (Nat.le_of_ble_eq_true rfl) (pB_k ?_)
      refine g_ifb_ne 48 F dX8_put_39 rfl (fun c_3 => ?_) (fun c_3 => ?_)
      · skip
        refine g_aload_n F dX8_put_48 rfl 0 rfl ?_
        refine gg_Model_bytes F fk_X8_34 dX8_put_49 ?_
        refine g_bipush F dX8_put_52 (60) (by decide) ?_
        refine g_iload_n F dX8_put_54 rfl 1 rfl ?_
        refine g_imul F dX8_put_55 ?_
        refine g_iload_n F dX8_put_56 rfl 2 rfl ?_
        refine g_iadd F dX8_put_57 ?_
        refine ga_48 F (by omega) dX8_put_58 ?_
        refine g_topi (b := z 20 (6 + (r)) (i)) ((hRel.2.2.2.1.2 _ (by omega) (by omega)).2 _ (by omega) (by omega)) ?_
        refine g_istore F [(4, .int (J (z 20 (6 + (r)) (i)))), (0, .ref (ad 8 (0))), (1, .int (J (r))), (2, .int (J (i))), (3, .int (J (v)))] dX8_put_59 (by decide) rfl ?_
        have hcb := cb_range v
        refine g_aload_n F dX8_put_61 rfl 1 rfl ?_
        refine gg_Model_bytes F fk_X8_34 dX8_put_62 ?_
        refine g_bipush F dX8_put_65 (60) (by decide) ?_
        refine g_iload_n F dX8_put_67 rfl 2 rfl ?_
        refine g_imul F dX8_put_68 ?_
        refine g_iload_n F dX8_put_69 rfl 3 rfl ?_
        refine g_iadd F dX8_put_70 ?_
        refine g_iload_n F dX8_put_71 rfl 4 rfl ?_
        refine g_i2b F dX8_put_72 (by omega) ?_
        refine gs_48 F (by omega) dX8_put_73 ?_
        refine g_iload F dX8_put_74 0 rfl ?_
        refine g_sipush F dX8_put_76 (1000) (by decide) ?_
        refine g_iadd F dX8_put_79 ?_
        exact g_ireturn F hR dX8_put_80 (pH_z (by unfold sPut; first | (rw [pRf_a (by omega)]; exact rfl) | (rw [pRf_b (by omega) (by omega)]; exact rfl) | (rw [pRf_c (by omega) (by omega) (by omega)]; exact rfl) | (rw [pRf_d (by omega) (by omega) (by omega)]; exact Int.add_comm _ _)) (by unfold sPut; first | (rw [pRf_a (by omega)]; exact hRel) | (rw [pRf_b (by omega) (by omega)]; exact Rel_find hRel (by decide)) | (rw [pRf_c (by omega) (by omega) (by omega)]; exact Rel_find hRel (by decide)) | (rw [pRf_d (by omega) (by omega) (by omega)]; exact Rel_put hRel (by omega) (by omega) (by omega))) rfl)
      · skip
        refine g_aload_n F dX8_put_42 rfl 0 rfl ?_
        refine g_iconst F dX8_put_43 (2) (by decide) ?_
        refine g_callV 1 F (As := [.int (J (2))]) (st := []) (c_X8_find l D ad x y (2) (by omega)) (gR_8) rfl mk_X8_84 ki_X8_find kc_X8_find (by decide +kernel) rfl (by decide) dX8_put_44 rfl (Nat.le_of_ble_eq_true rfl) (pI_k ?_)
        exact g_ireturn F hR dX8_put_47 (pH_z (by unfold sPut; first | (rw [pRf_a (by omega)]; exact rfl) | (rw [pRf_b (by omega) (by omega)]; exact rfl) | (rw [pRf_c (by omega) (by omega) (by omega)]; exact rfl) | (rw [pRf_d (by omega) (by omega) (by omega)]; exact Int.add_comm _ _)) (by unfold sPut; first | (rw [pRf_a (by omega)]; exact hRel) | (rw [pRf_b (by omega) (by omega)]; exact Rel_find hRel (by decide)) | (rw [pRf_c (by omega) (by omega) (by omega)]; exact Rel_find hRel (by decide)) | (rw [pRf_d (by omega) (by omega) (by omega)]; exact Rel_put hRel (by omega) (by omega) (by omega))) rfl)
    · skip
      refine g_aload_n F dX8_put_18 rfl 0 rfl ?_
      refine g_iconst F dX8_put_19 (1) (by decide) ?_
      refine g_callV 1 F (As := [.int (J (1))]) (st := []) (c_X8_find l D ad x y (1) (by omega)) (gR_8) rfl mk_X8_84 ki_X8_find kc_X8_find (by decide +kernel) rfl (by decide) dX8_put_20 rfl (Nat.le_of_ble_eq_true rfl) (pI_k ?_)
      exact g_ireturn F hR dX8_put_23 (pH_z (by unfold sPut; first | (rw [pRf_a (by omega)]; exact rfl) | (rw [pRf_b (by omega) (by omega)]; exact rfl) | (rw [pRf_c (by omega) (by omega) (by omega)]; exact rfl) | (rw [pRf_d (by omega) (by omega) (by omega)]; exact Int.add_comm _ _)) (by unfold sPut; first | (rw [pRf_a (by omega)]; exact hRel) | (rw [pRf_b (by omega) (by omega)]; exact Rel_find hRel (by decide)) | (rw [pRf_c (by omega) (by omega) (by omega)]; exact Rel_find hRel (by decide)) | (rw [pRf_d (by omega) (by omega) (by omega)]; exact Rel_put hRel (by omega) (by omega) (by omega))) rfl)
  · skip
    refine g_iconst F dX8_put_7 (-1) (by decide) ?_
    exact g_ireturn F hR dX8_put_8 (pH_z (by unfold sPut; first | (rw [pRf_a (by omega)]; exact rfl) | (rw [pRf_b (by omega) (by omega)]; exact rfl) | (rw [pRf_c (by omega) (by omega) (by omega)]; exact rfl) | (rw [pRf_d (by omega) (by omega) (by omega)]; exact Int.add_comm _ _)) (by unfold sPut; first | (rw [pRf_a (by omega)]; exact hRel) | (rw [pRf_b (by omega) (by omega)]; exact Rel_find hRel (by decide)) | (rw [pRf_c (by omega) (by omega) (by omega)]; exact Rel_find hRel (by decide)) | (rw [pRf_d (by omega) (by omega) (by omega)]; exact Rel_put hRel (by omega) (by omega) (by omega))) rfl)
