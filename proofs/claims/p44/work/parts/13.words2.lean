/-- the court can be asked -/
abbrev NOK (x : gX) : Prop := IOK x ∧ (0 ≤ x 10 0 0 ∧ x 10 0 0 ≤ 6) ∧ (0 ≤ x 15 0 0 ∧ x 15 0 0 ≤ 30) ∧ (∀ i : Int, 0 ≤ i → i < x 10 0 0 → MOK x i)
def kH (h : Int) : Int := max 0 (min 30 h)
theorem kH_r (h : Int) : 0 ≤ kH h ∧ kH h ≤ 30 := by unfold kH; omega
def sBeh (k v c a : Int) : Int := if v = 1 ∧ k ≤ c then kH (a + 5) else a
def dU (x : gX) (i w : Int) : Int := if w = 0 then x 1 i 0 else if w = 1 then x 2 i 0 else if w = 2 then x 3 i 0 else if w = 3 then sHard (x 1 i 0) (x 4 i 0) else if w = 4 then bU x i (x 15 0 0) else if w = 5 then (if cU x i (x 15 0 0) then 1 else 0) else if w = 6 then (if lU x i (x 15 0 0) ≤ 0 then 1 else 0) else if w = 7 then x 5 i 0 else x 6 i 0
def spN (P : Int → Prop) [DecidablePred P] : Nat → Int → Int
  | 0, _ => 0
  | k + 1, h => if P (h + 1) then 1 + spN P k (h + 1) else 0
theorem spN_r (P : Int → Prop) [DecidablePred P] : ∀ (k : Nat) (h : Int), 0 ≤ spN P k h ∧ spN P k h ≤ k
  | 0, _ => ⟨Int.le_refl _, Int.le_refl _⟩
  | k + 1, h => by
    have := spN_r P k (h + 1)
    show 0 ≤ (if P (h + 1) then 1 + spN P k (h + 1) else 0) ∧ (if P (h + 1) then 1 + spN P k (h + 1) else 0) ≤ ((k + 1 : Nat) : Int)
    split <;> omega
def sprU (x : gX) (i : Int) : Int := spN (fun h => lU x i h ≤ 0) (30 - x 15 0 0).toNat (x 15 0 0)
abbrev mbU (x : gX) (i : Int) : Prop := x 6 i 0 = -9 ∧ x 2 i 0 = 0 ∧ cU x i (x 15 0 0)
def snU (x : gX) (i : Int) : Int := max 0 ((lU x i (x 15 0 0) + 1).tdiv 2)
def ccU (x : gX) (i p : Int) : Int := if 0 < lU x i (x 15 0 0) then 0 else if 0 < lU x i (x 15 0 0) + 3 then 12 - p else 12
def likeM (x : gX) (i : Int) : gX := xU (xU (xU (xU (xU x 1 6 0 (x 1 i 0)) 2 6 0 (x 2 i 0)) 3 6 0 (x 3 i 0)) 4 6 0 (x 4 i 0)) 5 6 0 (x 5 i 0)
abbrev wW (x : gX) (i h : Int) : Prop := x 6 i 0 = -9 ∧ sWr (x 2 i 0) (vU x i h)
abbrev gwU (x : gX) (h : Int) : Int := sumZ (fun i => if x 2 i 0 = 1 ∧ wW x i h then 1 else 0) (x 10 0 0)
abbrev awU (x : gX) (h : Int) : Int := sumZ (fun i => if wW x i h then 1 else 0) (x 10 0 0)
abbrev foU (x : gX) (h : Int) : Int := sumZ (fun i => if x 6 i 0 = -9 ∧ vU x i h = 0 then 1 else 0) (x 10 0 0)
abbrev htU (x : gX) (i w : Int) : Int := sumZ (fun h => if vU x i h = w then p2 h else 0) 31
abbrev abU (x : gX) : Int := sumZ (fun i => if cU x i (x 15 0 0) then 0 else 1) (x 10 0 0)
abbrev trU (x : gX) : Int := sumZ (fun i => if x 6 i 0 ≠ -9 then p2 i else 0) (x 10 0 0)
abbrev tcU (x : gX) : Int := sumZ (fun i => if x 6 i 0 = 1 then 1 else 0) (x 10 0 0)
abbrev twU (x : gX) : Int := sumZ (fun i => if x 7 i 0 = 1 then 1 else 0) (x 10 0 0)
abbrev saU (x : gX) : Int := sumZ (fun i => x 5 i 0) (x 10 0 0)
abbrev plU (x : gX) : Int := sumZ (fun i => if sOf (x 1 i 0) 1 then 1 else 0) (x 10 0 0)
/-- copies of deeds, rows filled -/
def bcM (x : gX) (d e m : Int) : gX := fun k i j => if k = 21 ∧ i = d ∧ 0 ≤ j ∧ j < m then x 21 e j else if k = 22 ∧ i = d ∧ 0 ≤ j ∧ j < m then x 22 e j else x k i j
theorem bcM_0 (x : gX) (d e : Int) : bcM x d e 0 = x := by
  funext k i j
  unfold bcM
  rw [if_neg (by omega), if_neg (by omega)]
theorem bcM_s (x : gX) {d e m : Int} (hde : d ≠ e) (hm : 0 ≤ m) : xU (xU (bcM x d e m) 21 d m (x 21 e m)) 22 d m (x 22 e m) = bcM x d e (m + 1) := by
  funext k i j
  unfold xU bcM
  by_cases h1 : k = 22 ∧ i = d ∧ j = m
  · obtain ⟨rfl, rfl, rfl⟩ := h1
    simp; omega
  · rw [if_neg h1]
    by_cases h2 : k = 21 ∧ i = d ∧ j = m
    · obtain ⟨rfl, rfl, rfl⟩ := h2
      simp; omega
    · rw [if_neg h2]
      by_cases h3 : k = 21 ∧ i = d ∧ 0 ≤ j ∧ j < m
      · rw [if_pos h3, if_pos ⟨h3.1, h3.2.1, h3.2.2.1, by omega⟩]
      · rw [if_neg h3, if_neg (c := k = 21 ∧ i = d ∧ 0 ≤ j ∧ j < m + 1) (by omega)]
        by_cases h4 : k = 22 ∧ i = d ∧ 0 ≤ j ∧ j < m
        · rw [if_pos h4, if_pos ⟨h4.1, h4.2.1, h4.2.2.1, by omega⟩]
        · rw [if_neg h4, if_neg (by omega)]
theorem bcM_e (x : gX) {d e m j : Int} (hde : d ≠ e) (k : Int) : bcM x d e m k e j = x k e j := by
  unfold bcM
  rw [if_neg (fun h => hde h.2.1.symm), if_neg (fun h => hde h.2.1.symm)]
def flM (x : gX) (r v m : Int) : gX := fun k i j => if k = 20 ∧ i = r ∧ 0 ≤ j ∧ j < m then v else x k i j
theorem flM_0 (x : gX) (r v : Int) : flM x r v 0 = x := by
  funext k i j
  unfold flM
  rw [if_neg (by omega)]
theorem flM_s (x : gX) {r v m : Int} (hm : 0 ≤ m) : xU (flM x r v m) 20 r m v = flM x r v (m + 1) := by
  funext k i j
  unfold xU flM
  by_cases h1 : k = 20 ∧ i = r ∧ j = m
  · rw [if_pos h1, if_pos ⟨h1.1, h1.2.1, by omega, by omega⟩]
  · rw [if_neg h1]
    by_cases h2 : k = 20 ∧ i = r ∧ 0 ≤ j ∧ j < m
    · rw [if_pos h2, if_pos ⟨h2.1, h2.2.1, h2.2.2.1, by omega⟩]
    · rw [if_neg h2, if_neg (by omega)]
theorem tdiv2_p {a : Int} (h : 0 ≤ a) : a.tdiv 2 = a / 2 := Int.tdiv_eq_ediv_of_nonneg h
theorem tdiv2_n {a : Int} (h : a ≤ 0) : a.tdiv 2 = -((-a) / 2) := by
  have e := Int.neg_tdiv (-a) 2
  rw [Int.neg_neg] at e
  rw [e, Int.tdiv_eq_ediv_of_nonneg (by omega)]
theorem tdiv2_r {a : Int} (h : -300 ≤ a ∧ a ≤ 310) : -200 ≤ a.tdiv 2 ∧ a.tdiv 2 ≤ 200 := by
  rcases Int.le_total 0 a with q | q
  · rw [tdiv2_p q]; omega
  · rw [tdiv2_n q]; omega
