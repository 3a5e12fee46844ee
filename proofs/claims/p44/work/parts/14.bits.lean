/-- none of them fails -/
theorem mmZ_iff {P : Int → Prop} [DecidablePred P] {n : Int} (h0 : 0 ≤ n) : sumZ (fun q => if P q then 0 else 1) n = 0 ↔ ∀ q : Int, 0 ≤ q → q < n → P q := by
  obtain ⟨m, rfl⟩ : ∃ m : Nat, n = m := ⟨n.toNat, by omega⟩
  clear h0
  have nn : ∀ k : Nat, 0 ≤ sumZ (fun q => if P q then 0 else 1) (k : Int) := fun k => by
    have := (sumZ_range (f := fun q => if P q then 0 else 1) (a := 0) (b := 1) (n := (k : Int)) (by omega) (fun i _ _ => by show 0 ≤ (if P i then (0 : Int) else 1) ∧ (if P i then (0 : Int) else 1) ≤ 1; split <;> omega)).1
    omega
  induction m with
  | zero => exact ⟨fun _ q h1 h2 => by omega, fun _ => rfl⟩
  | succ k ih =>
    have hk := nn k
    rw [show ((k + 1 : Nat) : Int) = (k : Int) + 1 by omega, sumZ_s _ (by omega)]
    constructor
    · intro h q h1 h2
      by_cases hP : P (k : Int)
      · rw [if_pos hP, Int.add_zero] at h
        rcases (show q < k ∨ q = k by omega) with e | e
        · exact ih.mp h q h1 e
        · rw [e]; exact hP
      · rw [if_neg hP] at h; omega
    · intro h
      rw [ih.mpr (fun q h1 h2 => h q h1 (by omega)), if_pos (h k (by omega) (by omega))]; rfl
abbrev bitsZ (P : Int → Prop) [DecidablePred P] (n : Int) : Int := sumZ (fun i => if P i then p2 i else 0) n
theorem bitsZ_cong {P Q : Int → Prop} [DecidablePred P] [DecidablePred Q] {n : Int} (h : ∀ i : Int, 0 ≤ i → i < n → (P i ↔ Q i)) : bitsZ P n = bitsZ Q n := sumZ_cong (fun i h0 h1 => by
  by_cases hP : P i
  · rw [if_pos hP, if_pos ((h i h0 h1).mp hP)]
  · rw [if_neg hP, if_neg (fun q => hP ((h i h0 h1).mpr q))])
theorem p2_nat (i : Nat) : p2 (i : Int) = ((2 ^ i : Nat) : Int) := by unfold p2; push_cast; rfl
theorem bits_test {P : Int → Prop} [DecidablePred P] {n : Nat} (i : Nat) : (bitsZ P (n : Int)).toNat.testBit i = decide (i < n ∧ P (i : Int)) := by
  have hr : 0 ≤ bitsZ P (n : Int) ∧ bitsZ P (n : Int) < p2 (n : Int) := bitZ_r (P := P) (n := (n : Int)) (by omega)
  rw [Nat.testBit_eq_decide_div_mod_eq]
  by_cases hi : i < n
  · have hb := bit_of (P := P) (n := (n : Int)) (i := (i : Int)) (by omega) (by omega)
    have e : ((bitsZ P (n : Int)).toNat / 2 ^ i % 2 : Nat) = (if P (i : Int) then 1 else 0 : Nat) := by
      have h2 : (((bitsZ P (n : Int)).toNat / 2 ^ i % 2 : Nat) : Int) = if P (i : Int) then 1 else 0 := by
        push_cast
        rw [← hb, Int.toNat_of_nonneg hr.1, p2_nat]
        push_cast
        rfl
      by_cases hP : P (i : Int)
      · rw [if_pos hP] at h2 ⊢; omega
      · rw [if_neg hP] at h2 ⊢; omega
    rw [e]
    by_cases hP : P (i : Int) <;> simp [hP, hi]
  · have h3 : (bitsZ P (n : Int)).toNat < 2 ^ i := by
      have h4 : (bitsZ P (n : Int)).toNat < 2 ^ n := by have := hr.2; rw [p2_nat] at this; omega
      exact Nat.lt_of_lt_of_le h4 (Nat.pow_le_pow_right (by decide) (by omega))
    rw [Nat.div_eq_of_lt h3]
    simp [hi]
theorem bits_self {a : Int} {n : Nat} (h0 : 0 ≤ a) (h1 : a < p2 (n : Int)) : bitsZ (fun h => a / p2 h % 2 = 1) (n : Int) = a := by
  have hr : 0 ≤ bitsZ (fun h => a / p2 h % 2 = 1) (n : Int) ∧ bitsZ (fun h => a / p2 h % 2 = 1) (n : Int) < p2 (n : Int) := bitZ_r (P := fun h => a / p2 h % 2 = 1) (n := (n : Int)) (by omega)
  have e : (bitsZ (fun h => a / p2 h % 2 = 1) (n : Int)).toNat = a.toNat := by
    apply Nat.eq_of_testBit_eq
    intro i
    rw [bits_test, Nat.testBit_eq_decide_div_mod_eq]
    have e2 : ((a.toNat / 2 ^ i % 2 : Nat) : Int) = a / p2 (i : Int) % 2 := by
      push_cast
      rw [Int.toNat_of_nonneg h0, p2_nat]
      push_cast
      rfl
    by_cases hi : i < n
    · have : (a / p2 (i : Int) % 2 = 1) ↔ (a.toNat / 2 ^ i % 2 = 1) := by omega
      simp [hi, this]
    · have h3 : a.toNat < 2 ^ i := by
        have h4 : a.toNat < 2 ^ n := by rw [p2_nat] at h1; omega
        exact Nat.lt_of_lt_of_le h4 (Nat.pow_le_pow_right (by decide) (by omega))
      rw [Nat.div_eq_of_lt h3]
      simp [hi]
  have := hr.1
  omega
theorem bits_and {P Q : Int → Prop} [DecidablePred P] [DecidablePred Q] (n : Nat) : J (bitsZ P (n : Int)) &&& J (bitsZ Q (n : Int)) = J (bitsZ (fun i => P i ∧ Q i) (n : Int)) := by
  have h1 : 0 ≤ bitsZ P (n : Int) ∧ bitsZ P (n : Int) < p2 (n : Int) := bitZ_r (P := P) (n := (n : Int)) (by omega)
  have h2 : 0 ≤ bitsZ Q (n : Int) ∧ bitsZ Q (n : Int) < p2 (n : Int) := bitZ_r (P := Q) (n := (n : Int)) (by omega)
  have h3 : 0 ≤ bitsZ (fun i => P i ∧ Q i) (n : Int) ∧ bitsZ (fun i => P i ∧ Q i) (n : Int) < p2 (n : Int) := bitZ_r (P := fun i => P i ∧ Q i) (n := (n : Int)) (by omega)
  rw [← Int.toNat_of_nonneg h1.1, ← Int.toNat_of_nonneg h2.1, andJ]
  have e : (bitsZ P (n : Int)).toNat &&& (bitsZ Q (n : Int)).toNat = (bitsZ (fun i => P i ∧ Q i) (n : Int)).toNat := by
    apply Nat.eq_of_testBit_eq
    intro i
    rw [Nat.testBit_and, bits_test, bits_test, bits_test]
    by_cases hi : i < n <;> by_cases hP : P (i : Int) <;> by_cases hQ : Q (i : Int) <;> simp [hi, hP, hQ]
  have e2 := Int.toNat_of_nonneg h3.1
  show J (((bitsZ P (n : Int)).toNat &&& (bitsZ Q (n : Int)).toNat : Nat) : Int) = J (bitsZ (fun i => P i ∧ Q i) (n : Int))
  rw [e]
  exact congrArg J e2
theorem and_bits {a : Int} {Q : Int → Prop} [DecidablePred Q] (n : Nat) (h0 : 0 ≤ a) (h1 : a < p2 (n : Int)) : J a &&& J (bitsZ Q (n : Int)) = J (bitsZ (fun i => a / p2 i % 2 = 1 ∧ Q i) (n : Int)) := by
  have e := bits_self h0 h1
  have := bits_and (P := fun h => a / p2 h % 2 = 1) (Q := Q) n
  rw [e] at this
  exact this
/-- the greatest of n, 0 at least -/
def mxN (f : Int → Int) : Nat → Int
  | 0 => 0
  | k + 1 => max (mxN f k) (f (k : Int))
def mxZ (f : Int → Int) (n : Int) : Int := mxN f n.toNat
theorem mxZ_s (f : Int → Int) {j : Int} (h : 0 ≤ j) : mxZ f (j + 1) = max (mxZ f j) (f j) := by
  unfold mxZ
  rw [show (j + 1).toNat = j.toNat + 1 by omega]
  show max (mxN f j.toNat) (f (j.toNat : Int)) = _
  rw [Int.toNat_of_nonneg h]
