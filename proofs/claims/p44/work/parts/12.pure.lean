/-! sums from 0 below n; bits as sums of powers -/
def sumN (f : Int → Int) : Nat → Int
  | 0 => 0
  | k + 1 => sumN f k + f (k : Int)
def sumZ (f : Int → Int) (n : Int) : Int := sumN f n.toNat
theorem sumZ_0 (f : Int → Int) : sumZ f 0 = 0 := rfl
theorem sumZ_s (f : Int → Int) {j : Int} (h : 0 ≤ j) : sumZ f (j + 1) = sumZ f j + f j := by
  unfold sumZ
  rw [show (j + 1).toNat = j.toNat + 1 by omega]
  show sumN f j.toNat + f (j.toNat : Int) = _
  rw [Int.toNat_of_nonneg h]
theorem sumN_cong {f g : Int → Int} : ∀ {n : Nat}, (∀ i : Int, 0 ≤ i → i < n → f i = g i) → sumN f n = sumN g n
  | 0, _ => rfl
  | k + 1, h => by
    show sumN f k + f k = sumN g k + g k
    rw [sumN_cong (fun i h0 h1 => h i h0 (by omega)), h k (by omega) (by omega)]
theorem sumZ_cong {f g : Int → Int} {n : Int} (h : ∀ i : Int, 0 ≤ i → i < n → f i = g i) : sumZ f n = sumZ g n := sumN_cong (fun i h0 h1 => h i h0 (by omega))
theorem sumN_range {f : Int → Int} {a b : Int} : ∀ {n : Nat}, (∀ i : Int, 0 ≤ i → i < n → a ≤ f i ∧ f i ≤ b) → a * n ≤ sumN f n ∧ sumN f n ≤ b * n
  | 0, _ => by simp [sumN]
  | k + 1, h => by
    have h1 := sumN_range (n := k) (fun i h0 h1 => h i h0 (by omega))
    have h2 := h k (by omega) (by omega)
    show a * ((k + 1 : Nat) : Int) ≤ sumN f k + f k ∧ sumN f k + f k ≤ b * ((k + 1 : Nat) : Int)
    rw [show ((k + 1 : Nat) : Int) = (k : Int) + 1 by omega, Int.mul_add, Int.mul_add]; omega
theorem sumZ_range {f : Int → Int} {a b n : Int} (h0 : 0 ≤ n) (h : ∀ i : Int, 0 ≤ i → i < n → a ≤ f i ∧ f i ≤ b) : a * n ≤ sumZ f n ∧ sumZ f n ≤ b * n := by
  have := sumN_range (n := n.toNat) (fun i h1 h2 => h i h1 (by omega))
  rw [Int.toNat_of_nonneg h0] at this
  exact this
/-- how many of n: one for each that it holds of -/
theorem cntZ_r {P : Int → Prop} [DecidablePred P] {n : Int} (h0 : 0 ≤ n) : 0 ≤ sumZ (fun i => if P i then 1 else 0) n ∧ sumZ (fun i => if P i then 1 else 0) n ≤ n := by
  have := sumZ_range (f := fun i => if P i then 1 else 0) (a := 0) (b := 1) h0 (fun i _ _ => by show 0 ≤ (if P i then (1 : Int) else 0) ∧ (if P i then (1 : Int) else 0) ≤ 1; split <;> omega)
  omega
theorem p2_0 : p2 0 = 1 := rfl
theorem bitZ_r {P : Int → Prop} [DecidablePred P] {n : Int} (h0 : 0 ≤ n) : 0 ≤ sumZ (fun i => if P i then p2 i else 0) n ∧ sumZ (fun i => if P i then p2 i else 0) n < p2 n := by
  obtain ⟨m, rfl⟩ : ∃ m : Nat, n = m := ⟨n.toNat, by omega⟩
  induction m with
  | zero => exact ⟨Int.le_refl _, (by decide : (0 : Int) < 1)⟩
  | succ k ih =>
    have h1 := ih (by omega)
    rw [show ((k + 1 : Nat) : Int) = (k : Int) + 1 by omega, sumZ_s _ (by omega), p2_succ (by omega)]
    have := p2_pos (k : Int)
    split <;> omega
theorem J_nI (n : Nat) : J (n : Int) = nI n := Int32.ofInt_eq_ofNat
theorem J_shl {j : Int} (h : 0 ≤ j ∧ j ≤ 30) : J 1 <<< (J j &&& 31) = J (p2 j) := by
  have key : ∀ n : Nat, n < 31 → J 1 <<< (J (n : Int) &&& 31) = J (p2 (n : Int)) := by decide +kernel
  have := key j.toNat (by omega)
  rwa [Int.toNat_of_nonneg h.1] at this
theorem orJ (a b : Nat) : J (a : Int) ||| J (b : Int) = J ((a ||| b : Nat) : Int) := by
  rw [J_nI, J_nI, J_nI]
  apply Int32.toBitVec_inj.1
  show BitVec.ofNat 32 a ||| BitVec.ofNat 32 b = BitVec.ofNat 32 (a ||| b)
  apply BitVec.eq_of_getLsbD_eq
  intro i hi
  simp [hi]
theorem andJ (a b : Nat) : J (a : Int) &&& J (b : Int) = J ((a &&& b : Nat) : Int) := by
  rw [J_nI, J_nI, J_nI]
  apply Int32.toBitVec_inj.1
  show BitVec.ofNat 32 a &&& BitVec.ofNat 32 b = BitVec.ofNat 32 (a &&& b)
  apply BitVec.eq_of_getLsbD_eq
  intro i hi
  simp [hi]
theorem J_or {a j : Int} (h0 : 0 ≤ a) (h1 : a < p2 j) (hj : 0 ≤ j) : J a ||| J (p2 j) = J (a + p2 j) := by
  obtain ⟨n, rfl⟩ : ∃ n : Nat, a = n := ⟨a.toNat, by omega⟩
  have e : p2 j = ((2 ^ j.toNat : Nat) : Int) := by unfold p2; exact (by push_cast; rfl)
  rw [e] at h1 ⊢
  rw [orJ]
  have hlt : n < 2 ^ j.toNat := by exact_mod_cast h1
  have h2 := Nat.two_pow_add_eq_or_of_lt hlt 1
  rw [Nat.mul_one] at h2
  rw [Nat.or_comm, ← h2]
  congr 1
  push_cast
  omega
theorem J_or0 (a : Int) : J a ||| J 0 = J a := by
  show J a ||| (0 : Int32) = J a
  simp
/-- a bit asked for -/
theorem bit_of {P : Int → Prop} [DecidablePred P] {n i : Int} (h0 : 0 ≤ i) (h1 : i < n) : sumZ (fun i => if P i then p2 i else 0) n / p2 i % 2 = if P i then 1 else 0 := by
  obtain ⟨m, rfl⟩ : ∃ m : Nat, n = m := ⟨n.toNat, by omega⟩
  induction m with
  | zero => omega
  | succ k ih =>
    rw [show ((k + 1 : Nat) : Int) = (k : Int) + 1 by omega, sumZ_s _ (by omega)]
    have hp := p2_pos i
    by_cases hk : i = k
    · subst hk
      have hr := bitZ_r (P := P) (n := (k : Int)) (by omega)
      by_cases hP : P (k : Int)
      · simp only [if_pos hP]
        rw [Int.add_ediv_of_dvd_right (Int.dvd_refl _), Int.ediv_eq_zero_of_lt hr.1 hr.2, Int.ediv_self (by omega)]
        rfl
      · simp only [if_neg hP]
        rw [Int.add_zero, Int.ediv_eq_zero_of_lt hr.1 hr.2]; rfl
    · have h2 := ih (by omega)
      by_cases hP : P (k : Int)
      · simp only [if_pos hP]
        have hd : p2 (k : Int) = p2 i * (2 * p2 ((k : Int) - i - 1)) := by
          rw [← p2_succ (by omega)]
          unfold p2
          rw [← Int.pow_add]
          congr 1; omega
        rw [hd, Int.add_mul_ediv_left _ _ (by omega), Int.add_mul_emod_self_left]
        exact h2
      · simp only [if_neg hP]
        rw [Int.add_zero]; exact h2
theorem J_bit {a i : Int} (ha : 0 ≤ a ∧ a < 2147483648) (hi : 0 ≤ i ∧ i ≤ 30) : J a >>> (J i &&& 31) &&& J 1 = J (a / p2 i % 2) := by
  obtain ⟨n, rfl⟩ : ∃ n : Nat, a = n := ⟨a.toNat, by omega⟩
  obtain ⟨k, rfl⟩ : ∃ k : Nat, i = k := ⟨i.toNat, by omega⟩
  have hk : k < 31 := by omega
  have hs : ((J (k : Int) &&& 31).toBitVec.smod 32).toNat = k := by
    have key : ∀ n : Nat, n < 31 → ((J (n : Int) &&& 31).toBitVec.smod 32).toNat = n := by decide +kernel
    exact key k hk
  rw [J_nI n, pk_shrN (by omega) _ k hs, ← J_nI, show (J 1) = J ((1 : Nat) : Int) from rfl, andJ, Nat.and_one_is_mod]
  congr 1
/-- digests -/
def dgN (f : Int → Int) (h : Int) : Nat → Int
  | 0 => h
  | k + 1 => 31 * dgN f h k + f (k : Int)
def dgZ (f : Int → Int) (h n : Int) : Int := dgN f h n.toNat
theorem dgZ_0 (f : Int → Int) (h : Int) : dgZ f h 0 = h := rfl
theorem dgZ_s (f : Int → Int) (h : Int) {j : Int} (h0 : 0 ≤ j) : dgZ f h (j + 1) = 31 * dgZ f h j + f j := by
  unfold dgZ
  rw [show (j + 1).toNat = j.toNat + 1 by omega]
  show 31 * dgN f h j.toNat + f (j.toNat : Int) = _
  rw [Int.toNat_of_nonneg h0]
theorem dgN_cong {f g : Int → Int} {h : Int} : ∀ {n : Nat}, (∀ i : Int, 0 ≤ i → i < n → f i = g i) → dgN f h n = dgN g h n
  | 0, _ => rfl
  | k + 1, hh => by
    show 31 * dgN f h k + f k = 31 * dgN g h k + g k
    rw [dgN_cong (fun i h0 h1 => hh i h0 (by omega)), hh k (by omega) (by omega)]
theorem dgZ_cong {f g : Int → Int} {h n : Int} (hh : ∀ i : Int, 0 ≤ i → i < n → f i = g i) : dgZ f h n = dgZ g h n := dgN_cong (fun i h0 h1 => hh i h0 (by omega))
