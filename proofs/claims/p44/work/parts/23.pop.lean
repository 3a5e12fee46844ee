theorem g_iushr {Θ : gT} {l : Launch} {D : gD} {ad : gA} {cc : ByteArray} {own : String} {nL d pc : Nat} {lv : List (Nat × Value)} {st : List Value} {x : gX} {y : gY} {a b w : Int32} (F : gF Θ l D ad cc own nL d) (hd : decode cc pc = .ok (.iushr, 1)) (v : Int) (hw : (a.toUInt32 >>> (b.toUInt32 &&& Int32.toUInt32 31)).toInt32 = w) (hv : w = J v) (kk : gW Θ l D ad nL (pc + 1) lv (.int (J v) :: st) x y) : gW Θ l D ad nL pc lv (.int b :: .int a :: st) x y := by
  obtain ⟨p, e, R, s, m, args, below, meth, c, Q, A, H0, cells, slots⟩ := Θ
  obtain ⟨hx, hb, hml, ho, hts, hN, hK, hAp, hr1, hr2, hr3, hr4⟩ := F
  intro H locs ls hl hP hS
  refine lv_iushr hx hb hd hw ?_
  rw [hv]
  exact kk H locs ls hl hP hS
theorem J_ushr {n k : Nat} (hn : n < 2 ^ 32) (hk : k < 32) : ((J (n : Int)).toUInt32 >>> ((J (k : Int)).toUInt32 &&& Int32.toUInt32 31)).toInt32 = J ((n / 2 ^ k : Nat) : Int) := by
  rw [J_nI, J_nI, J_nI]
  refine pk_ushrN hn (nI k) k ?_
  have key : ∀ q : Nat, q < 32 → (((nI q).toUInt32 &&& Int32.toUInt32 31).toBitVec % 32).toNat = q := by decide +kernel
  exact key k hk
theorem and8 {a b r s : Nat} (hr : r < 256) (hs : s < 256) : (256 * a + r) &&& (256 * b + s) = 256 * (a &&& b) + (r &&& s) := by
  apply Nat.eq_of_testBit_eq
  intro i
  have hrs : r &&& s < 2 ^ 8 := Nat.and_lt_two_pow _ hs
  rw [Nat.testBit_and, show (256 : Nat) = 2 ^ 8 from rfl, Nat.testBit_two_pow_mul_add _ hr, Nat.testBit_two_pow_mul_add _ hs, Nat.testBit_two_pow_mul_add _ hrs]
  split
  · rw [Nat.testBit_and]
  · rw [Nat.testBit_and]
theorem and32 {c0 c1 c2 c3 m0 m1 m2 m3 : Nat} (h0 : c0 < 256) (h1 : c1 < 256) (h2 : c2 < 256) (k0 : m0 < 256) (k1 : m1 < 256) (k2 : m2 < 256) : (256 * (256 * (256 * c3 + c2) + c1) + c0) &&& (256 * (256 * (256 * m3 + m2) + m1) + m0) = 256 * (256 * (256 * (c3 &&& m3) + (c2 &&& m2)) + (c1 &&& m1)) + (c0 &&& m0) := by
  rw [and8 h0 k0, and8 h1 k1, and8 h2 k2]
/-- the machine's way to count bits -/
def bcA (n : Nat) : Nat := n - (n / 2 &&& 1431655765)
def bcB (n : Nat) : Nat := (bcA n &&& 858993459) + (bcA n / 4 &&& 858993459)
def bcC (n : Nat) : Nat := (bcB n + bcB n / 16) &&& 252645135
def bcD (n : Nat) : Nat := bcC n + bcC n / 256
def bcE (n : Nat) : Nat := bcD n + bcD n / 65536
def w1 (c : Nat) : Nat := c / 2 &&& 85
def w2 (c : Nat) : Nat := (c - w1 c) &&& 51
def w3 (c : Nat) : Nat := (c - w1 c) / 4 &&& 51
def w4 (c : Nat) : Nat := c / 1 % 2 + c / 2 % 2 + c / 4 % 2 + c / 8 % 2 + c / 16 % 2 + c / 32 % 2 + c / 64 % 2 + c / 128 % 2
theorem w1_i : ∀ c : Nat, c < 256 → w1 c ≤ c := by decide +kernel
theorem w1_a : ∀ b : Nat, b < 2 → ∀ c : Nat, c < 256 → (c / 2 + 128 * b) &&& 85 = w1 c := by decide +kernel
theorem w3_a : ∀ b : Nat, b < 4 → ∀ c : Nat, c < 256 → ((c - w1 c) / 4 + 64 * b) &&& 51 = w3 c := by decide +kernel
theorem w23_i : ∀ c : Nat, c < 256 → (w2 c + w3 c) % 16 ≤ 4 ∧ w2 c + w3 c ≤ 68 := by decide +kernel
theorem w4_a : ∀ b : Nat, b < 5 → ∀ c : Nat, c < 256 → ((w2 c + w3 c) + (w2 c + w3 c) / 16 + 16 * b) &&& 15 = w4 c := by decide +kernel
theorem w4_i : ∀ c : Nat, c < 256 → w4 c ≤ 8 := by decide +kernel
theorem bc_bytes {c0 c1 c2 c3 : Nat} (h0 : c0 < 256) (h1 : c1 < 256) (h2 : c2 < 256) (h3 : c3 < 256) : bcC (256 * (256 * (256 * c3 + c2) + c1) + c0) = (256 * (256 * (256 * (w4 c3) + (w4 c2)) + (w4 c1)) + (w4 c0)) := by
  have i0 := w1_i c0 h0
  have i1 := w1_i c1 h1
  have i2 := w1_i c2 h2
  have i3 := w1_i c3 h3
  have eA : bcA (256 * (256 * (256 * c3 + c2) + c1) + c0) = (256 * (256 * (256 * (c3 - w1 c3) + (c2 - w1 c2)) + (c1 - w1 c1)) + (c0 - w1 c0)) := by
    unfold bcA
    rw [show (256 * (256 * (256 * c3 + c2) + c1) + c0) / 2 = (256 * (256 * (256 * (c3 / 2 + 128 * 0) + (c2 / 2 + 128 * (c3 % 2))) + (c1 / 2 + 128 * (c2 % 2))) + (c0 / 2 + 128 * (c1 % 2))) by omega, show 1431655765 = 256 * (256 * (256 * 85 + 85) + 85) + 85 from rfl, and32 (by omega) (by omega) (by omega) (by decide) (by decide) (by decide), w1_a 0 (by decide) c3 h3, w1_a (c3 % 2) (by omega) c2 h2, w1_a (c2 % 2) (by omega) c1 h1, w1_a (c1 % 2) (by omega) c0 h0]
    omega
  have j0 := w23_i c0 h0
  have j1 := w23_i c1 h1
  have j2 := w23_i c2 h2
  have j3 := w23_i c3 h3
  have eB : bcB (256 * (256 * (256 * c3 + c2) + c1) + c0) = (256 * (256 * (256 * (w2 c3 + w3 c3) + (w2 c2 + w3 c2)) + (w2 c1 + w3 c1)) + (w2 c0 + w3 c0)) := by
    unfold bcB
    rw [eA, show (256 * (256 * (256 * (c3 - w1 c3) + (c2 - w1 c2)) + (c1 - w1 c1)) + (c0 - w1 c0)) / 4 = (256 * (256 * (256 * ((c3 - w1 c3) / 4 + 64 * 0) + ((c2 - w1 c2) / 4 + 64 * ((c3 - w1 c3) % 4))) + ((c1 - w1 c1) / 4 + 64 * ((c2 - w1 c2) % 4))) + ((c0 - w1 c0) / 4 + 64 * ((c1 - w1 c1) % 4))) by omega, show 858993459 = 256 * (256 * (256 * 51 + 51) + 51) + 51 from rfl, and32 (by omega) (by omega) (by omega) (by decide) (by decide) (by decide), and32 (by omega) (by omega) (by omega) (by decide) (by decide) (by decide), w3_a 0 (by decide) c3 h3, w3_a ((c3 - w1 c3) % 4) (by omega) c2 h2, w3_a ((c2 - w1 c2) % 4) (by omega) c1 h1, w3_a ((c1 - w1 c1) % 4) (by omega) c0 h0]
    show 256 * (256 * (256 * w2 c3 + w2 c2) + w2 c1) + w2 c0 + (256 * (256 * (256 * w3 c3 + w3 c2) + w3 c1) + w3 c0) = _
    omega
  unfold bcC
  rw [eB, show (256 * (256 * (256 * (w2 c3 + w3 c3) + (w2 c2 + w3 c2)) + (w2 c1 + w3 c1)) + (w2 c0 + w3 c0)) + (256 * (256 * (256 * (w2 c3 + w3 c3) + (w2 c2 + w3 c2)) + (w2 c1 + w3 c1)) + (w2 c0 + w3 c0)) / 16 = (256 * (256 * (256 * ((w2 c3 + w3 c3) + (w2 c3 + w3 c3) / 16 + 16 * 0) + ((w2 c2 + w3 c2) + (w2 c2 + w3 c2) / 16 + 16 * ((w2 c3 + w3 c3) % 16))) + ((w2 c1 + w3 c1) + (w2 c1 + w3 c1) / 16 + 16 * ((w2 c2 + w3 c2) % 16))) + ((w2 c0 + w3 c0) + (w2 c0 + w3 c0) / 16 + 16 * ((w2 c1 + w3 c1) % 16))) by omega, show 252645135 = 256 * (256 * (256 * 15 + 15) + 15) + 15 from rfl, and32 (by omega) (by omega) (by omega) (by decide) (by decide) (by decide), w4_a 0 (by decide) c3 h3, w4_a ((w2 c3 + w3 c3) % 16) (by omega) c2 h2, w4_a ((w2 c2 + w3 c2) % 16) (by omega) c1 h1, w4_a ((w2 c1 + w3 c1) % 16) (by omega) c0 h0]
def nsum (g : Nat → Nat) : Nat → Nat
  | 0 => 0
  | k + 1 => nsum g k + g k
theorem w4_lo (m c : Nat) : w4 (256 * m + c) = w4 c := by
  unfold w4
  have e0 : (256 * m + c) / 1 % 2 = c / 1 % 2 := by omega
  have e1 : (256 * m + c) / 2 % 2 = c / 2 % 2 := by omega
  have e2 : (256 * m + c) / 4 % 2 = c / 4 % 2 := by omega
  have e3 : (256 * m + c) / 8 % 2 = c / 8 % 2 := by omega
  have e4 : (256 * m + c) / 16 % 2 = c / 16 % 2 := by omega
  have e5 : (256 * m + c) / 32 % 2 = c / 32 % 2 := by omega
  have e6 : (256 * m + c) / 64 % 2 = c / 64 % 2 := by omega
  have e7 : (256 * m + c) / 128 % 2 = c / 128 % 2 := by omega
  rw [e0, e1, e2, e3, e4, e5, e6, e7]
theorem bc_nsum {n : Nat} (h : n < 2147483648) : bcE n % 64 = nsum (fun k => n / 2 ^ k % 2) 31 := by
  have hs : nsum (fun k => n / 2 ^ k % 2) 31 + n / (16777216 * 128) % 2 = w4 n + w4 (n / 256) + w4 (n / 65536) + w4 (n / 16777216) := by
    unfold w4
    show 0 + n / 1 % 2 + n / 2 % 2 + n / 4 % 2 + n / 8 % 2 + n / 16 % 2 + n / 32 % 2 + n / 64 % 2 + n / 128 % 2 + n / (256 * 1) % 2 + n / (256 * 2) % 2 + n / (256 * 4) % 2 + n / (256 * 8) % 2 + n / (256 * 16) % 2 + n / (256 * 32) % 2 + n / (256 * 64) % 2 + n / (256 * 128) % 2 + n / (65536 * 1) % 2 + n / (65536 * 2) % 2 + n / (65536 * 4) % 2 + n / (65536 * 8) % 2 + n / (65536 * 16) % 2 + n / (65536 * 32) % 2 + n / (65536 * 64) % 2 + n / (65536 * 128) % 2 + n / (16777216 * 1) % 2 + n / (16777216 * 2) % 2 + n / (16777216 * 4) % 2 + n / (16777216 * 8) % 2 + n / (16777216 * 16) % 2 + n / (16777216 * 32) % 2 + n / (16777216 * 64) % 2 + n / (16777216 * 128) % 2 = _
    simp only [← Nat.div_div_eq_div_mul, Nat.add_assoc, Nat.zero_add]
  rw [show n / (16777216 * 128) % 2 = 0 by omega, Nat.add_zero] at hs
  rw [hs]
  obtain ⟨c0, c1, c2, c3, h0, h1, h2, h3, rfl⟩ : ∃ c0 c1 c2 c3 : Nat, c0 < 256 ∧ c1 < 256 ∧ c2 < 256 ∧ c3 < 128 ∧ n = 256 * (256 * (256 * c3 + c2) + c1) + c0 := ⟨n % 256, n / 256 % 256, n / 65536 % 256, n / 16777216, by omega, by omega, by omega, by omega, by omega⟩
  have e := bc_bytes h0 h1 h2 (by omega : c3 < 256)
  have i0 := w4_i c0 h0
  have i1 := w4_i c1 h1
  have i2 := w4_i c2 h2
  have i3 := w4_i c3 (by omega)
  rw [show (256 * (256 * (256 * c3 + c2) + c1) + c0) / 256 = 256 * (256 * c3 + c2) + c1 by omega, show (256 * (256 * (256 * c3 + c2) + c1) + c0) / 65536 = 256 * c3 + c2 by omega, show (256 * (256 * (256 * c3 + c2) + c1) + c0) / 16777216 = c3 by omega, w4_lo, w4_lo, w4_lo]
  unfold bcE bcD
  rw [e]
  have q1 : (256 * (256 * (256 * (w4 c3) + (w4 c2)) + (w4 c1)) + (w4 c0)) / 256 = 256 * (256 * w4 c3 + w4 c2) + w4 c1 := by omega
  rw [q1]
  have q2 : ((256 * (256 * (256 * (w4 c3) + (w4 c2)) + (w4 c1)) + (w4 c0)) + (256 * (256 * w4 c3 + w4 c2) + w4 c1)) / 65536 = 256 * w4 c3 + (w4 c2 + w4 c3) := by omega
  rw [q2]
  omega
theorem nsum_sumN (n : Nat) : ∀ m : Nat, sumN (fun k => (n : Int) / p2 k % 2) m = ((nsum (fun k => n / 2 ^ k % 2) m : Nat) : Int)
  | 0 => rfl
  | m + 1 => by
    show sumN (fun k => (n : Int) / p2 k % 2) m + (n : Int) / p2 (m : Int) % 2 = ((nsum (fun k => n / 2 ^ k % 2) m + n / 2 ^ m % 2 : Nat) : Int)
    rw [nsum_sumN n m, p2_nat]
    push_cast
    rfl
/-- how many bits a set has -/
abbrev pcZ (a : Int) : Int := sumZ (fun k => a / p2 k % 2) 31
theorem pc_bc {n : Nat} (h : n < 2147483648) : ((bcE n % 64 : Nat) : Int) = pcZ (n : Int) := by
  rw [bc_nsum h]
  exact (nsum_sumN n 31).symm
theorem bcA_le (n : Nat) : bcA n ≤ n := Nat.sub_le _ _
theorem bcB_le (n : Nat) : bcB n ≤ 1717986918 := by
  have h1 : bcA n &&& 858993459 ≤ 858993459 := Nat.and_le_right
  have h2 : bcA n / 4 &&& 858993459 ≤ 858993459 := Nat.and_le_right
  unfold bcB; omega
theorem bcC_le (n : Nat) : bcC n ≤ 252645135 := Nat.and_le_right
theorem and63 (n : Nat) : n &&& 63 = n % 64 := Nat.and_two_pow_sub_one_eq_mod n 6
theorem bits_pc {P : Int → Prop} [DecidablePred P] : pcZ (bitsZ P 31) = sumZ (fun h => if P h then 1 else 0) 31 := sumZ_cong (fun i h0 h1 => bit_of h0 h1)
theorem bits_31 {P : Int → Prop} [DecidablePred P] : 0 ≤ bitsZ P 31 ∧ bitsZ P 31 < 2147483648 := by
  have h : 0 ≤ bitsZ P 31 ∧ bitsZ P 31 < p2 31 := bitZ_r (P := P) (n := 31) (by decide)
  rw [show p2 31 = 2147483648 by decide +kernel] at h
  exact h
abbrev gpU (x : gX) (i s : Int) : Int := mxZ (fun v => sumZ (fun h => if s / p2 h % 2 = 1 ∧ vU x i h = v then 1 else 0) 31) 3
set_option maxRecDepth 20000 in
theorem c_J6_bitCount_0f7a4 (l : Launch) (D : gD) (ad : gA) (x : gX) (y : gY) (n : Nat) (hn : n < 2147483648) : gC l D ad 0 yJ6_bitCount_0f7a4 cJ6_bitCount_0f7a4 1 (some .int) [.int (J ((n : Int)))] x y (pI (pcZ (n : Int)) (x) (y)) := by
  refine g_met RJ6 rfl (by decide +kernel) [(0, .int (J ((n : Int))))] rfl (Nat.le_of_ble_eq_true rfl) (fun Θ F hR => ?_)
  refine g_iload_n F dJ6_bitCount_0f7a4_0 rfl 0 rfl ?_
  refine g_iload_n F dJ6_bitCount_0f7a4_1 rfl 0 rfl ?_
  refine g_iconst F dJ6_bitCount_0f7a4_2 (1) (by decide) ?_
  refine g_iushr F dJ6_bitCount_0f7a4_3 (((n / 2 ^ 1 : Nat) : Int)) (J_ushr (n := n) (k := 1) (by omega) (by decide)) rfl ?_
  refine g_ldc_w F ck_J6_265 dJ6_bitCount_0f7a4_4 (1431655765) (by decide) ?_
  refine g_iand F dJ6_bitCount_0f7a4_7 (((n / 2 ^ 1 &&& 1431655765 : Nat) : Int)) (andJ (n / 2 ^ 1) 1431655765) ?_
  refine g_isub F dJ6_bitCount_0f7a4_8 ?_
  refine g_topi (b := (bcA n : Int)) (by have h : n / 2 ^ 1 &&& 1431655765 ≤ n / 2 ^ 1 := Nat.and_le_left; show (n : Int) - ((n / 2 ^ 1 &&& 1431655765 : Nat) : Int) = ((n - (n / 2 ^ 1 &&& 1431655765) : Nat) : Int); omega) ?_
  refine g_istore_n F [(0, .int (J ((bcA n : Int))))] dJ6_bitCount_0f7a4_9 rfl (by decide) rfl ?_
  refine g_iload_n F dJ6_bitCount_0f7a4_10 rfl 0 rfl ?_
  refine g_ldc_w F ck_J6_266 dJ6_bitCount_0f7a4_11 (858993459) (by decide) ?_
  refine g_iand F dJ6_bitCount_0f7a4_14 (((bcA n &&& 858993459 : Nat) : Int)) (andJ (bcA n) 858993459) ?_
  refine g_iload_n F dJ6_bitCount_0f7a4_15 rfl 0 rfl ?_
  refine g_iconst F dJ6_bitCount_0f7a4_16 (2) (by decide) ?_
  refine g_iushr F dJ6_bitCount_0f7a4_17 (((bcA n / 2 ^ 2 : Nat) : Int)) (J_ushr (n := bcA n) (k := 2) (by have := bcA_le n; omega) (by decide)) rfl ?_
  refine g_ldc_w F ck_J6_266 dJ6_bitCount_0f7a4_18 (858993459) (by decide) ?_
  refine g_iand F dJ6_bitCount_0f7a4_21 (((bcA n / 2 ^ 2 &&& 858993459 : Nat) : Int)) (andJ (bcA n / 2 ^ 2) 858993459) ?_
  refine g_iadd F dJ6_bitCount_0f7a4_22 ?_
  refine g_topi (b := (bcB n : Int)) ((Int.natCast_add _ _).symm) ?_
  refine g_istore_n F [(0, .int (J ((bcB n : Int))))] dJ6_bitCount_0f7a4_23 rfl (by decide) rfl ?_
  refine g_iload_n F dJ6_bitCount_0f7a4_24 rfl 0 rfl ?_
  refine g_iload_n F dJ6_bitCount_0f7a4_25 rfl 0 rfl ?_
  refine g_iconst F dJ6_bitCount_0f7a4_26 (4) (by decide) ?_
  refine g_iushr F dJ6_bitCount_0f7a4_27 (((bcB n / 2 ^ 4 : Nat) : Int)) (J_ushr (n := bcB n) (k := 4) (by have := bcB_le n; omega) (by decide)) rfl ?_
  refine g_iadd F dJ6_bitCount_0f7a4_28 ?_
  refine g_topi (b := ((bcB n + bcB n / 2 ^ 4 : Nat) : Int)) ((Int.natCast_add _ _).symm) ?_
  refine g_ldc_w F ck_J6_267 dJ6_bitCount_0f7a4_29 (252645135) (by decide) ?_
  refine g_iand F dJ6_bitCount_0f7a4_32 ((((bcB n + bcB n / 2 ^ 4) &&& 252645135 : Nat) : Int)) (andJ ((bcB n + bcB n / 2 ^ 4)) 252645135) ?_
  refine g_topi (b := (bcC n : Int)) (rfl) ?_
  refine g_istore_n F [(0, .int (J ((bcC n : Int))))] dJ6_bitCount_0f7a4_33 rfl (by decide) rfl ?_
  refine g_iload_n F dJ6_bitCount_0f7a4_34 rfl 0 rfl ?_
  refine g_iload_n F dJ6_bitCount_0f7a4_35 rfl 0 rfl ?_
  refine g_bipush F dJ6_bitCount_0f7a4_36 (8) (by decide) ?_
  refine g_iushr F dJ6_bitCount_0f7a4_38 (((bcC n / 2 ^ 8 : Nat) : Int)) (J_ushr (n := bcC n) (k := 8) (by have := bcC_le n; omega) (by decide)) rfl ?_
  refine g_iadd F dJ6_bitCount_0f7a4_39 ?_
  refine g_topi (b := (bcD n : Int)) ((Int.natCast_add _ _).symm) ?_
  refine g_istore_n F [(0, .int (J ((bcD n : Int))))] dJ6_bitCount_0f7a4_40 rfl (by decide) rfl ?_
  refine g_iload_n F dJ6_bitCount_0f7a4_41 rfl 0 rfl ?_
  refine g_iload_n F dJ6_bitCount_0f7a4_42 rfl 0 rfl ?_
  refine g_bipush F dJ6_bitCount_0f7a4_43 (16) (by decide) ?_
  refine g_iushr F dJ6_bitCount_0f7a4_45 (((bcD n / 2 ^ 16 : Nat) : Int)) (J_ushr (n := bcD n) (k := 16) (by have := bcC_le n; unfold bcD; omega) (by decide)) rfl ?_
  refine g_iadd F dJ6_bitCount_0f7a4_46 ?_
  refine g_topi (b := (bcE n : Int)) ((Int.natCast_add _ _).symm) ?_
  refine g_istore_n F [(0, .int (J ((bcE n : Int))))] dJ6_bitCount_0f7a4_47 rfl (by decide) rfl ?_
  refine g_iload_n F dJ6_bitCount_0f7a4_48 rfl 0 rfl ?_
  refine g_bipush F dJ6_bitCount_0f7a4_49 (63) (by decide) ?_
  refine g_iand F dJ6_bitCount_0f7a4_51 (((bcE n &&& 63 : Nat) : Int)) (andJ (bcE n) 63) ?_
  exact g_ireturn F hR dJ6_bitCount_0f7a4_52 (pI_i (by rw [and63]; exact pc_bc hn) rfl rfl)
theorem c_bitc (l : Launch) (D : gD) (ad : gA) (x : gX) (y : gY) (a : Int) (ha : 0 ≤ a ∧ a < 2147483648) : gC l D ad 0 yJ6_bitCount_0f7a4 cJ6_bitCount_0f7a4 1 (some .int) [.int (J (a))] x y (pI (pcZ a) x y) := by
  obtain ⟨n, rfl⟩ : ∃ n : Nat, a = n := ⟨a.toNat, by omega⟩
  exact c_J6_bitCount_0f7a4 l D ad x y n (by omega)
set_option maxRecDepth 20000 in
theorem c_X0_greatestPart (l : Launch) (D : gD) (ad : gA) (x : gX) (y : gY) (i s : Int) (hi : 0 ≤ i ∧ i < 7) (hN : NOK x) (hm : MOK x i) (hs : 0 ≤ s ∧ s < 2147483648) : gC l D ad 5 yX0_greatestPart cX0_greatestPart 5 (some .int) [.ref (ad 0 (0)), .ref (ad 3 (i)), .int (J (s))] x y (pI (gpU x i s) (x) (y)) := by
  refine g_met RX0 rfl (by decide +kernel) [(0, .ref (ad 0 (0))), (1, .ref (ad 3 (i))), (2, .int (J (s)))] rfl (Nat.le_of_ble_eq_true rfl) (fun Θ F hR => ?_)
  refine g_iconst F dX0_greatestPart_0 (0) (by decide) ?_
  refine g_istore_n F [(3, .int (J (0))), (0, .ref (ad 0 (0))), (1, .ref (ad 3 (i))), (2, .int (J (s)))] dX0_greatestPart_1 rfl (by decide) rfl ?_
  refine g_iconst F dX0_greatestPart_2 (0) (by decide) ?_
  refine g_istore F [(4, .int (J (0))), (3, .int (J (0))), (0, .ref (ad 0 (0))), (1, .ref (ad 3 (i))), (2, .int (J (s)))] dX0_greatestPart_3 (by decide) rfl ?_
  have L5 : ∀ (N : Nat) (a : Int) (j : Int), 0 ≤ j ∧ j ≤ 3 → 0 ≤ a ∧ a ≤ 31 → a = mxZ (fun v => sumZ (fun h => if s / p2 h % 2 = 1 ∧ vU x i h = v then 1 else 0) 31) j → (3 - j).toNat < N → gW Θ l D ad 5 5 [(0, .ref (ad 0 (0))), (1, .ref (ad 3 (i))), (2, .int (J (s))), (3, .int (J (a))), (4, .int (J (j)))] [] x y := by
    intro N
    induction N with
    | zero => intro a j hj hb ha hFu; omega
    | succ N ih5 =>
      intro a j hj hb ha hFu
      refine g_iload F dX0_greatestPart_5 4 rfl ?_
      refine g_iconst F dX0_greatestPart_7 (3) (by decide) ?_
      refine g_icmp_ge 34 F dX0_greatestPart_8 (by omega) (by decide) rfl (fun c_1 => ?_) (fun c_1 => ?_)
      · skip
        refine g_iload_n F dX0_greatestPart_34 rfl 3 rfl ?_
        exact g_ireturn F hR dX0_greatestPart_35 (pI_i (by exact ha.trans (by rw [show j = 3 by omega])) rfl rfl)
      · skip
        refine g_iload_n F dX0_greatestPart_11 rfl 3 rfl ?_
        refine g_iload_n F dX0_greatestPart_12 rfl 2 rfl ?_
        refine g_aload_n F dX0_greatestPart_13 rfl 0 rfl ?_
        refine g_aload_n F dX0_greatestPart_14 rfl 1 rfl ?_
        refine g_iload F dX0_greatestPart_15 4 rfl ?_
        refine g_callV 2 F (As := [.ref (ad 3 (i)), .int (J (j))]) (st := [.int (J (s)), .int (J (a))]) (c_X0_heatsTelling l D ad x y (i) (j) (by omega) (hN) (by omega) (by omega)) (gR_0) rfl mk_X0_166 ki_X0_heatsTelling kc_X0_heatsTelling (by decide +kernel) rfl (by decide) dX0_greatestPart_17 rfl (Nat.le_of_ble_eq_true rfl) (pI_k ?_)
        refine g_iand F dX0_greatestPart_20 (bitsZ (fun h => s / p2 h % 2 = 1 ∧ vU x i h = j) 31) (and_bits 31 hs.1 (by rw [show p2 ((31 : Nat) : Int) = 2147483648 by decide +kernel]; exact hs.2)) ?_
        refine g_callS 1 F (As := [.int (J (bitsZ (fun h => s / p2 h % 2 = 1 ∧ vU x i h = j) 31))]) (st := [.int (J (a))]) (c_bitc l D ad x y (bitsZ (fun h => s / p2 h % 2 = 1 ∧ vU x i h = j) 31) (bits_31)) rfl mk_X0_169 ki_J6_bitCount_0f7a4 kc_J6_bitCount_0f7a4 (by decide +kernel) rfl (by decide) dX0_greatestPart_21 rfl (Nat.le_of_ble_eq_true rfl) (pI_k ?_)
        have hc : 0 ≤ sumZ (fun h => if s / p2 h % 2 = 1 ∧ vU x i h = j then 1 else 0) 31 ∧ sumZ (fun h => if s / p2 h % 2 = 1 ∧ vU x i h = j then 1 else 0) 31 ≤ 31 := cntZ_r (by decide)
        refine g_topi (b := sumZ (fun h => if s / p2 h % 2 = 1 ∧ vU x i h = j then 1 else 0) 31) (bits_pc) ?_
        refine g_max F mk_X0_138 (by decide) (by omega) (by omega) dX0_greatestPart_24 (Nat.le_of_ble_eq_true rfl) ?_
        refine g_istore_n F [(3, .int (J (max (a) (sumZ (fun h => if s / p2 h % 2 = 1 ∧ vU x i h = j then 1 else 0) 31)))), (0, .ref (ad 0 (0))), (1, .ref (ad 3 (i))), (2, .int (J (s))), (4, .int (J (j)))] dX0_greatestPart_27 rfl (by decide) rfl ?_
        refine g_iinc F [(4, .int (J (j + 1))), (3, .int (J (max (a) (sumZ (fun h => if s / p2 h % 2 = 1 ∧ vU x i h = j then 1 else 0) 31)))), (0, .ref (ad 0 (0))), (1, .ref (ad 3 (i))), (2, .int (J (s)))] 4 rfl dX0_greatestPart_28 (by decide) rfl ?_
        refine g_goto F 5 dX0_greatestPart_31 rfl ?_
        refine g_sub [2, 3, 4, 1, 0] (lv' := [(0, .ref (ad 0 (0))), (1, .ref (ad 3 (i))), (2, .int (J (s))), (3, .int (J (max (a) (sumZ (fun h => if s / p2 h % 2 = 1 ∧ vU x i h = j then 1 else 0) 31)))), (4, .int (J (j + 1)))]) rfl ?_
        exact ih5 (max (a) (sumZ (fun h => if s / p2 h % 2 = 1 ∧ vU x i h = j then 1 else 0) 31)) (j + 1) (by omega) (by omega) (by rw [mxZ_s _ (by omega), ← ha]) (by omega)
  refine g_sub [2, 3, 4, 1, 0] (lv' := [(0, .ref (ad 0 (0))), (1, .ref (ad 3 (i))), (2, .int (J (s))), (3, .int (J (0))), (4, .int (J (0)))]) rfl ?_
  exact L5 _ (0) (0) (by omega) (by omega) (rfl) (Nat.lt_succ_self _)
