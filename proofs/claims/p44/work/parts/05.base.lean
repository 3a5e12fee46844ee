/-! numbers: an int is J of an integer in range, a long is Lg of one -/
abbrev i32 (a : Int) : Prop := -2147483648 ≤ a ∧ a < 2147483648
abbrev i64 (a : Int) : Prop := -9223372036854775808 ≤ a ∧ a < 9223372036854775808
def J (a : Int) : Int32 := Int32.ofInt a
def Lg (a : Int) : Int64 := Int64.ofInt a
theorem J_toInt {a : Int} (h : i32 a) : (J a).toInt = a := Int32.toInt_ofInt_of_le (by have := h.1; omega) (by have := h.2; omega)
theorem Lg_toInt {a : Int} (h : i64 a) : (Lg a).toInt = a := Int64.toInt_ofInt_of_le (by have := h.1; omega) (by have := h.2; omega)
theorem J_eq {a b : Int} (ha : i32 a) (hb : i32 b) : J a = J b ↔ a = b := ⟨fun h => by have := congrArg Int32.toInt h; rwa [J_toInt ha, J_toInt hb] at this, fun h => by rw [h]⟩
theorem J_lt {a b : Int} (ha : i32 a) (hb : i32 b) : J a < J b ↔ a < b := by rw [Int32.lt_iff_toInt_lt, J_toInt ha, J_toInt hb]
theorem J_le {a b : Int} (ha : i32 a) (hb : i32 b) : J a ≤ J b ↔ a ≤ b := by rw [Int32.le_iff_toInt_le, J_toInt ha, J_toInt hb]
theorem Lg_eq {a b : Int} (ha : i64 a) (hb : i64 b) : Lg a = Lg b ↔ a = b := ⟨fun h => by have := congrArg Int64.toInt h; rwa [Lg_toInt ha, Lg_toInt hb] at this, fun h => by rw [h]⟩
theorem Lg_lt {a b : Int} (ha : i64 a) (hb : i64 b) : Lg a < Lg b ↔ a < b := by rw [Int64.lt_iff_toInt_lt, Lg_toInt ha, Lg_toInt hb]
theorem J_add (a b : Int) : J a + J b = J (a + b) := (Int32.ofInt_add a b).symm
theorem J_sub (a b : Int) : J a - J b = J (a - b) := (Int32.ofInt_sub a b).symm
theorem J_mul (a b : Int) : J a * J b = J (a * b) := (Int32.ofInt_mul a b).symm
theorem Lg_add (a b : Int) : Lg a + Lg b = Lg (a + b) := (Int64.ofInt_add a b).symm
theorem Lg_sub (a b : Int) : Lg a - Lg b = Lg (a - b) := (Int64.ofInt_sub a b).symm
theorem Lg_mul (a b : Int) : Lg a * Lg b = Lg (a * b) := (Int64.ofInt_mul a b).symm
theorem J_0 : (0 : Int32) = J 0 := by decide +kernel
theorem Lg_0 : (0 : Int64) = Lg 0 := by decide +kernel
theorem J_cl {a : Int} (h : i32 a) : (J a).toNatClampNeg = a.toNat := Int32.toNatClampNeg_ofInt_of_le (by have := h.1; omega) (by have := h.2; omega)
theorem J_in {a : Int} {n : Nat} (h0 : 0 ≤ a) (h1 : a < (n : Int)) (hn : n ≤ 2147483647) : vp_in (J a) n := by
  have h : i32 a := ⟨by omega, by omega⟩
  intro q
  rcases q with q | q
  · rw [J_0, J_lt h ⟨by decide, by decide⟩] at q; omega
  · rw [J_cl h] at q; omega
theorem J_of (v : Int32) : ∃ a : Int, i32 a ∧ v = J a := ⟨v.toInt, ⟨by have := Int32.le_toInt v; omega, by have := Int32.toInt_lt v; omega⟩, (Int32.ofInt_toInt v).symm⟩
theorem Lg_of (v : Int64) : ∃ a : Int, i64 a ∧ v = Lg a := ⟨v.toInt, ⟨by have := Int64.le_toInt v; omega, by have := Int64.toInt_lt v; omega⟩, (Int64.ofInt_toInt v).symm⟩
/-- the number in range that an int stands for -/
def wr (a : Int) : Int := (J a).toInt
theorem wr_i32 (a : Int) : i32 (wr a) := ⟨by have := Int32.le_toInt (J a); unfold wr; omega, by have := Int32.toInt_lt (J a); unfold wr; omega⟩
theorem J_wr (a : Int) : J (wr a) = J a := Int32.ofInt_toInt (J a)
theorem wr_id {a : Int} (h : i32 a) : wr a = a := J_toInt h
def wl (a : Int) : Int := (Lg a).toInt
theorem wl_i64 (a : Int) : i64 (wl a) := ⟨by have := Int64.le_toInt (Lg a); unfold wl; omega, by have := Int64.toInt_lt (Lg a); unfold wl; omega⟩
theorem Lg_wl (a : Int) : Lg (wl a) = Lg a := Int64.ofInt_toInt (Lg a)
theorem wl_id {a : Int} (h : i64 a) : wl a = a := Lg_toInt h
theorem J_tdiv {a b : Int} (ha : i32 a) (hb : i32 b) : J a / J b = J (a.tdiv b) := by
  have e1 : Int32.minValue.toInt = -2147483648 := by decide +kernel
  have e2 : Int32.maxValue.toInt = 2147483647 := by decide +kernel
  have h := Int32.ofInt_tdiv (a := a) (b := b) (by rw [e1]; omega) (by rw [e2]; omega) (by rw [e1]; omega) (by rw [e2]; omega)
  exact h.symm
theorem J_tmod {a b : Int} (ha : i32 a) (hb : i32 b) : J a - J a / J b * J b = J (a.tmod b) := by
  rw [J_tdiv ha hb, J_mul, J_sub]
  congr 1
  have := Int.tmod_add_mul_tdiv a b
  rw [Int.mul_comm] at this
  omega
theorem Lg_tdiv {a b : Int} (ha : i64 a) (hb : i64 b) : Lg a / Lg b = Lg (a.tdiv b) := by
  have e1 : Int64.minValue.toInt = -9223372036854775808 := by decide +kernel
  have e2 : Int64.maxValue.toInt = 9223372036854775807 := by decide +kernel
  have h := Int64.ofInt_tdiv (a := a) (b := b) (by rw [e1]; omega) (by rw [e2]; omega) (by rw [e1]; omega) (by rw [e2]; omega)
  exact h.symm
theorem Lg_tmod {a b : Int} (ha : i64 a) (hb : i64 b) : Lg a - Lg a / Lg b * Lg b = Lg (a.tmod b) := by
  rw [Lg_tdiv ha hb, Lg_mul, Lg_sub]
  congr 1
  have := Int.tmod_add_mul_tdiv a b
  rw [Int.mul_comm] at this
  omega
theorem J_long {a : Int} (h : i32 a) : (J a).toInt64 = Lg a := by
  apply Int64.toInt_inj.mp
  rw [Int32.toInt_toInt64, J_toInt h, Lg_toInt ⟨by have := h.1; omega, by have := h.2; omega⟩]
theorem Lg_int (a : Int) : (Lg a).toInt32 = J a := Int64.toInt32_ofInt
/-- cut to a byte -/
def cb (a : Int) : Int := a.bmod 256
theorem cb_range (a : Int) : -128 ≤ cb a ∧ cb a < 128 := ⟨by unfold cb; have := Int.le_bmod (x := a) (m := 256) (by decide); omega, by unfold cb; have := Int.bmod_lt (x := a) (m := 256) (by decide); omega⟩
theorem J_byte {a : Int} (h : i32 a) : (J a).toInt8.toInt32 = J (cb a) := by
  apply Int32.toInt_inj.mp
  rw [Int8.toInt_toInt32, Int32.toInt_toInt8, J_toInt h, J_toInt ⟨by have := cb_range a; omega, by have := cb_range a; omega⟩]
  rfl
/-- powers of two as bits -/
def p2 (i : Int) : Int := 2 ^ i.toNat
theorem p2_pos (i : Int) : 0 < p2 i := by unfold p2; exact Int.pow_pos (by decide)
theorem p2_succ {i : Int} (h : 0 ≤ i) : p2 (i + 1) = 2 * p2 i := by
  unfold p2
  rw [show (i + 1).toNat = i.toNat + 1 by omega, Int.pow_succ]; omega
theorem p2_mono {i j : Int} (h : i ≤ j) : p2 i ≤ p2 j := by
  unfold p2
  exact_mod_cast Nat.pow_le_pow_right (by decide : 1 ≤ 2) (by omega : i.toNat ≤ j.toNat)
theorem p2_le30 {i : Int} (h : i ≤ 30) : p2 i ≤ 1073741824 := by
  have := p2_mono h
  have e : p2 30 = 1073741824 := by decide +kernel
  omega
