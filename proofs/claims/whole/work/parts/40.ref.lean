/-! the reference: y tells the court z; a part of its row tells what can be undone of z -/
def ST (z : gX) (y : gY) : Prop := y 1 0 = z 11 0 0 ∧ y 2 0 = z 12 0 0 ∧ y 3 0 = z 13 0 0 ∧ y 4 0 = z 14 0 0 ∧ y 5 0 = z 10 0 0 ∧ ∀ i : Int, 0 ≤ i → i < z 10 0 0 → y 41 i = z 1 i 0 ∧ y 42 i = z 2 i 0 ∧ y 43 i = z 3 i 0 ∧ y 44 i = z 4 i 0
def sn (z : gX) (k : Int) : Int := if k = 0 then z 15 0 0 else if k = 1 then trU z else if k = 2 then tcU z else if k = 3 then twU z else if k < 10 then (if k - 4 < z 10 0 0 then z 5 (k - 4) 0 else 0) else (if k - 10 < z 10 0 0 then z 6 (k - 10) 0 else -9)
def SB (z : gX) (y : gY) (b : Int) : Prop := ∀ k : Int, 0 ≤ k → k < 16 → y 40 (b + 1 + k) = sn z k
theorem SB_0 {z : gX} {y : gY} {b : Int} (h : SB z y b) : y 40 (b + 1) = z 15 0 0 := by have := h 0 (by decide) (by decide); rw [Int.add_zero] at this; exact this
theorem SB_1 {z : gX} {y : gY} {b : Int} (h : SB z y b) : y 40 (b + 2) = trU z := by have := h 1 (by decide) (by decide); rw [show b + 1 + 1 = b + 2 by omega] at this; exact this
theorem SB_2 {z : gX} {y : gY} {b : Int} (h : SB z y b) : y 40 (b + 3) = tcU z := by have := h 2 (by decide) (by decide); rw [show b + 1 + 2 = b + 3 by omega] at this; exact this
theorem SB_3 {z : gX} {y : gY} {b : Int} (h : SB z y b) : y 40 (b + 4) = twU z := by have := h 3 (by decide) (by decide); rw [show b + 1 + 3 = b + 4 by omega] at this; exact this
theorem SB_5 {z : gX} {y : gY} {b i : Int} (h : SB z y b) (h6 : z 10 0 0 ≤ 6) (h0 : 0 ≤ i) (h1 : i < z 10 0 0) : y 40 (b + 5 + i) = z 5 i 0 := by
  have := h (4 + i) (by omega) (by omega)
  rw [show b + 1 + (4 + i) = b + 5 + i by omega] at this
  rw [this]
  unfold sn
  rw [if_neg (by omega), if_neg (by omega), if_neg (by omega), if_neg (by omega), if_pos (by omega), if_pos (by omega), show 4 + i - 4 = i by omega]
theorem SB_11 {z : gX} {y : gY} {b i : Int} (h : SB z y b) (h6 : z 10 0 0 ≤ 6) (h0 : 0 ≤ i) (h1 : i < z 10 0 0) : y 40 (b + 11 + i) = z 6 i 0 := by
  have := h (10 + i) (by omega) (by omega)
  rw [show b + 1 + (10 + i) = b + 11 + i by omega] at this
  rw [this]
  unfold sn
  rw [if_neg (by omega), if_neg (by omega), if_neg (by omega), if_neg (by omega), if_neg (by omega), if_pos (by omega), show 10 + i - 10 = i by omega]
theorem SB_00 {z : gX} {y : gY} (h : SB z y 0) : y 40 1 = z 15 0 0 := SB_0 h
theorem SB_01 {z : gX} {y : gY} (h : SB z y 0) : y 40 2 = trU z := SB_1 h
theorem SB_02 {z : gX} {y : gY} (h : SB z y 0) : y 40 3 = tcU z := SB_2 h
theorem SB_03 {z : gX} {y : gY} (h : SB z y 0) : y 40 4 = twU z := SB_3 h
theorem SB_05 {z : gX} {y : gY} {i : Int} (h : SB z y 0) (h6 : z 10 0 0 ≤ 6) (h0 : 0 ≤ i) (h1 : i < z 10 0 0) : y 40 (5 + i) = z 5 i 0 := SB_5 h h6 h0 h1
theorem SB_011 {z : gX} {y : gY} {i : Int} (h : SB z y 0) (h6 : z 10 0 0 ≤ 6) (h0 : 0 ≤ i) (h1 : i < z 10 0 0) : y 40 (11 + i) = z 6 i 0 := SB_11 h h6 h0 h1
theorem J_shr {s k : Int} (hs : 0 ≤ s ∧ s < 2147483648) (hk : 0 ≤ k ∧ k ≤ 30) : J s >>> (J k &&& 31) = J (s / p2 k) := by
  obtain ⟨n, rfl⟩ : ∃ n : Nat, s = n := ⟨s.toNat, by omega⟩
  obtain ⟨m, rfl⟩ : ∃ m : Nat, k = m := ⟨k.toNat, by omega⟩
  have hm : ((J (m : Int) &&& 31).toBitVec.smod 32).toNat = m := by
    have key : ∀ n : Nat, n < 31 → ((J (n : Int) &&& 31).toBitVec.smod 32).toNat = n := by decide +kernel
    exact key m (by omega)
  rw [J_nI n, pk_shrN (by omega) _ m hm, ← J_nI, p2_nat]
  congr 1
theorem J_and1 {a : Int} (h : 0 ≤ a) : J a &&& J 1 = J (a % 2) := by
  obtain ⟨n, rfl⟩ : ∃ n : Nat, a = n := ⟨a.toNat, by omega⟩
  rw [show (J 1) = J ((1 : Nat) : Int) from rfl, andJ, Nat.and_one_is_mod]
  congr 1
theorem dv_r {s k : Int} (hs : 0 ≤ s ∧ s < 2147483648) : 0 ≤ s / p2 k ∧ s / p2 k < 2147483648 := by
  have := p2_pos k
  exact ⟨Int.ediv_nonneg hs.1 (by omega), Int.lt_of_le_of_lt (Int.ediv_le_self _ hs.1) hs.2⟩
def yF (y : gY) (f : Int) : gY := yU (yU y 9 0 f) 49 f (y 49 f + 1)
theorem lU_le {z : gX} {i h : Int} : lU z i h ≤ 0 ↔ bU z i h ≤ z 13 0 0 + 2 * z 5 i 0 := by unfold lU; omega
/-- it burns no less by more heat -/
theorem bU_mono {z : gX} {i h : Int} (hI : IOK z) (h0 : 0 ≤ h) : bU z i h ≤ bU z i (h + 1) := by
  have a : sFelt (z 12 0 0) (z 1 i 0) (z 3 i 0) h ≤ sFelt (z 12 0 0) (z 1 i 0) (z 3 i 0) (h + 1) := by unfold sFelt sPlain; (repeat' split) <;> omega
  have b := Int.mul_le_mul_of_nonneg_left a hI.1.1
  unfold bU sBurn; omega
theorem trU_bit {z : gX} {i : Int} (h0 : 0 ≤ i) (h1 : i < z 10 0 0) : trU z / p2 i % 2 = 1 ↔ z 6 i 0 ≠ -9 := by
  have := bit_of (P := fun i => z 6 i 0 ≠ -9) h0 h1
  have e : trU z / p2 i % 2 = if z 6 i 0 ≠ -9 then 1 else 0 := this
  rw [e]; split <;> omega
abbrev sOf1 (own k : Int) : Prop := own = k ∨ (k = 1 ∧ own = 4) ∨ (k = 2 ∧ own = 5)
abbrev awB (z : gX) (i : Int) : Int := sumZ (fun k => if k ≠ i ∧ ¬ cU z k (z 15 0 0) then 1 else 0) (z 10 0 0)
theorem sprU_no {z : gX} {i : Int} (hI : IOK z) (h0 : 0 ≤ z 15 0 0) (h : ¬ lU z i (z 15 0 0) ≤ 0) : sprU z i = 0 := by
  unfold sprU
  cases (30 - z 15 0 0).toNat with
  | zero => rfl
  | succ k =>
    show (if lU z i (z 15 0 0 + 1) ≤ 0 then _ else 0) = 0
    rw [if_neg]
    have := bU_mono (i := i) hI h0
    rw [lU_le] at h ⊢
    omega
set_option maxRecDepth 20000 in
theorem c_X8_in (l : Launch) (D : gD) (ad : gA) (x : gX) (y : gY) (v a b : Int) (hv : i64 v) (ha : i64 a) (hb : i64 b) : gC l D ad 0 yX8_in cX8_in 6 (some .boolean) [.long (Lg (v)), .long (Lg (a)), .long (Lg (b))] x y (pB (a ≤ v ∧ v ≤ b) (x) (y)) := by
  refine g_met RX8 rfl (by decide +kernel) [(0, .long (Lg (v))), (2, .long (Lg (a))), (4, .long (Lg (b)))] rfl (Nat.le_of_ble_eq_true rfl) (fun Θ F hR => ?_)
  refine g_lload_n F dX8_in_0 rfl 0 rfl ?_
  refine g_lload_n F dX8_in_1 rfl 1 rfl ?_
  refine g_lcmp_lt 17 F dX8_in_2 dX8_in_3 (by omega) (by omega) rfl (fun c_1 => ?_) (fun c_1 => ?_)
  · skip
    refine g_iconst F dX8_in_17 (0) (by decide) ?_
    exact g_zreturn F hR dX8_in_18 (by omega) (pB_i (by split <;> omega) rfl rfl)
  · skip
    refine g_lload_n F dX8_in_6 rfl 0 rfl ?_
    refine g_lload F dX8_in_7 2 rfl ?_
    refine g_lcmp_gt 17 F dX8_in_9 dX8_in_10 (by omega) (by omega) rfl (fun c_2 => ?_) (fun c_2 => ?_)
    · skip
      refine g_iconst F dX8_in_17 (0) (by decide) ?_
      exact g_zreturn F hR dX8_in_18 (by omega) (pB_i (by split <;> omega) rfl rfl)
    · skip
      refine g_iconst F dX8_in_13 (1) (by decide) ?_
      refine g_goto F 18 dX8_in_14 rfl ?_
      exact g_zreturn F hR dX8_in_18 (by omega) (pB_i (by split <;> omega) rfl rfl)

set_option maxRecDepth 20000 in
theorem c_X8_has (l : Launch) (D : gD) (ad : gA) (x : gX) (y : gY) (s k : Int) (hs : 0 ≤ s ∧ s < 2147483648) (hk : 0 ≤ k ∧ k ≤ 30) : gC l D ad 0 yX8_has cX8_has 2 (some .boolean) [.int (J (s)), .int (J (k))] x y (pB (s / p2 k % 2 = 1) (x) (y)) := by
  refine g_met RX8 rfl (by decide +kernel) [(0, .int (J (s))), (1, .int (J (k)))] rfl (Nat.le_of_ble_eq_true rfl) (fun Θ F hR => ?_)
  have hd := dv_r (k := k) hs
  refine g_iload_n F dX8_has_0 rfl 0 rfl ?_
  refine g_iload_n F dX8_has_1 rfl 1 rfl ?_
  refine g_ishr F dX8_has_2 (s / p2 k) (J_shr hs hk) ?_
  refine g_iconst F dX8_has_3 (1) (by decide) ?_
  refine g_iand F dX8_has_4 (s / p2 k % 2) (J_and1 hd.1) ?_
  refine g_iconst F dX8_has_5 (1) (by decide) ?_
  refine g_icmp_ne 13 F dX8_has_6 (by omega) (by decide) rfl (fun c_1 => ?_) (fun c_1 => ?_)
  · skip
    refine g_iconst F dX8_has_13 (0) (by decide) ?_
    exact g_zreturn F hR dX8_has_14 (by omega) (pB_i (by split <;> omega) rfl rfl)
  · skip
    refine g_iconst F dX8_has_9 (1) (by decide) ?_
    refine g_goto F 14 dX8_has_10 rfl ?_
    exact g_zreturn F hR dX8_has_14 (by omega) (pB_i (by split <;> omega) rfl rfl)

set_option maxRecDepth 20000 in
theorem c_X8_some (l : Launch) (D : gD) (ad : gA) (x : gX) (y : gY) (v : Int) (hv : i32 v) : gC l D ad 0 yX8_some cX8_some 1 (some .int) [.int (J (v))] x y (pI (max 0 v) (x) (y)) := by
  refine g_met RX8 rfl (by decide +kernel) [(0, .int (J (v)))] rfl (Nat.le_of_ble_eq_true rfl) (fun Θ F hR => ?_)
  refine g_iload_n F dX8_some_0 rfl 0 rfl ?_
  refine g_if_ge 8 F dX8_some_1 (by omega) rfl (fun c_1 => ?_) (fun c_1 => ?_)
  · skip
    refine g_iload_n F dX8_some_8 rfl 0 rfl ?_
    exact g_ireturn F hR dX8_some_9 (pI_i (by omega) rfl rfl)
  · skip
    refine g_iconst F dX8_some_4 (0) (by decide) ?_
    refine g_goto F 9 dX8_some_5 rfl ?_
    exact g_ireturn F hR dX8_some_9 (pI_i (by omega) rfl rfl)

set_option maxRecDepth 20000 in
theorem c_X8_bits (l : Launch) (D : gD) (ad : gA) (x : gX) (y : gY) (s : Int) (hs : 0 ≤ s ∧ s < 2147483648) : gC l D ad 0 yX8_bits cX8_bits 3 (some .int) [.int (J (s))] x y (pI (pcZ s) (x) (y)) := by
  refine g_met RX8 rfl (by decide +kernel) [(0, .int (J (s)))] rfl (Nat.le_of_ble_eq_true rfl) (fun Θ F hR => ?_)
  refine g_iconst F dX8_bits_0 (0) (by decide) ?_
  refine g_istore_n F [(1, .int (J (0))), (0, .int (J (s)))] dX8_bits_1 rfl (by decide) rfl ?_
  refine g_iconst F dX8_bits_2 (0) (by decide) ?_
  refine g_istore_n F [(2, .int (J (0))), (1, .int (J (0))), (0, .int (J (s)))] dX8_bits_3 rfl (by decide) rfl ?_
  have L4 : ∀ (N : Nat) (a : Int) (j : Int), 0 ≤ j ∧ j ≤ 31 → a = sumZ (fun k => s / p2 k % 2) j → (31 - j).toNat < N → gW Θ l D ad 3 4 [(0, .int (J (s))), (1, .int (J (a))), (2, .int (J (j)))] [] x y := by
    intro N
    induction N with
    | zero => intro a j hj ha hFu; omega
    | succ N ih4 =>
      intro a j hj ha hFu
      refine g_iload_n F dX8_bits_4 rfl 2 rfl ?_
      refine g_bipush F dX8_bits_5 (31) (by decide) ?_
      refine g_icmp_ge 24 F dX8_bits_7 (by omega) (by decide) rfl (fun c_1 => ?_) (fun c_1 => ?_)
      · skip
        refine g_iload_n F dX8_bits_24 rfl 1 rfl ?_
        exact g_ireturn F hR dX8_bits_25 (pI_i (by exact ha.trans (by rw [show j = 31 by omega])) rfl rfl)
      · skip
        have hd := dv_r (k := j) hs
        refine g_iload_n F dX8_bits_10 rfl 1 rfl ?_
        refine g_iload_n F dX8_bits_11 rfl 0 rfl ?_
        refine g_iload_n F dX8_bits_12 rfl 2 rfl ?_
        refine g_ishr F dX8_bits_13 (s / p2 j) (J_shr hs (by omega)) ?_
        refine g_iconst F dX8_bits_14 (1) (by decide) ?_
        refine g_iand F dX8_bits_15 (s / p2 j % 2) (J_and1 hd.1) ?_
        refine g_iadd F dX8_bits_16 ?_
        refine g_istore_n F [(1, .int (J ((a) + (s / p2 j % 2)))), (0, .int (J (s))), (2, .int (J (j)))] dX8_bits_17 rfl (by decide) rfl ?_
        refine g_iinc F [(2, .int (J (j + 1))), (1, .int (J ((a) + (s / p2 j % 2)))), (0, .int (J (s)))] 2 rfl dX8_bits_18 (by decide) rfl ?_
        refine g_goto F 4 dX8_bits_21 rfl ?_
        refine g_sub [2, 1, 0] (lv' := [(0, .int (J (s))), (1, .int (J ((a) + (s / p2 j % 2)))), (2, .int (J (j + 1)))]) rfl ?_
        exact ih4 ((a) + (s / p2 j % 2)) (j + 1) (by omega) (by rw [sumZ_s _ (by omega), ← ha]) (by omega)
  refine g_sub [2, 1, 0] (lv' := [(0, .int (J (s))), (1, .int (J (0))), (2, .int (J (0)))]) rfl ?_
  exact L4 _ (0) (0) (by omega) (rfl) (Nat.lt_succ_self _)

set_option maxRecDepth 20000 in
theorem c_X8_find (l : Launch) (D : gD) (ad : gA) (x : gX) (y : gY) (f : Int) (hf : 0 ≤ f ∧ f ≤ 5) : gC l D ad 0 yX8_find cX8_find 2 (some .int) [.ref (ad 8 (0)), .int (J (f))] x y (pI (-3) (x) (yF y f)) := by
  refine g_met RX8 rfl (by decide +kernel) [(0, .ref (ad 8 (0))), (1, .int (J (f)))] rfl (Nat.le_of_ble_eq_true rfl) (fun Θ F hR => ?_)
  refine g_aload_n F dX8_find_0 rfl 0 rfl ?_
  refine g_iload_n F dX8_find_1 rfl 1 rfl ?_
  refine gp_Model_finding F fk_X8_65 dX8_find_2 ?_
  refine g_aload_n F dX8_find_5 rfl 0 rfl ?_
  refine gg_Model_findings F fk_X8_41 dX8_find_6 ?_
  refine g_iload_n F dX8_find_9 rfl 1 rfl ?_
  refine g_dup2 F dX8_find_10 rfl rfl ?_
  refine ga_49 F (by omega) dX8_find_11 ?_
  refine g_topi (b := y 49 (f)) (by simp [yU]) ?_
  refine g_iconst F dX8_find_12 (1) (by decide) ?_
  refine g_iadd F dX8_find_13 ?_
  refine gs_49 F (by omega) dX8_find_14 ?_
  refine g_bipush F dX8_find_15 (-3) (by decide) ?_
  exact g_ireturn F hR dX8_find_17 (pI_i (by rfl) rfl (by rfl))

set_option maxRecDepth 20000 in
theorem c_X8_tell (l : Launch) (D : gD) (ad : gA) (x : gX) (y : gY) (v : Int)  : gC l D ad 0 yX8_tell cX8_tell 2 (some .int) [.ref (ad 8 (0)), .int (J (v))] x y (pI (1) (x) (yU y 6 0 v)) := by
  refine g_met RX8 rfl (by decide +kernel) [(0, .ref (ad 8 (0))), (1, .int (J (v)))] rfl (Nat.le_of_ble_eq_true rfl) (fun Θ F hR => ?_)
  refine g_aload_n F dX8_tell_0 rfl 0 rfl ?_
  refine g_iload_n F dX8_tell_1 rfl 1 rfl ?_
  refine gp_Model_asked F fk_X8_69 dX8_tell_2 ?_
  refine g_iconst F dX8_tell_5 (1) (by decide) ?_
  exact g_ireturn F hR dX8_tell_6 (pI_i (by rfl) rfl (by rfl))

set_option maxRecDepth 20000 in
theorem c_X8_isRow (l : Launch) (D : gD) (ad : gA) (x : gX) (y : gY) (r : Int) (hr : i32 r) : gC l D ad 1 yX8_isRow cX8_isRow 1 (some .boolean) [.int (J (r))] x y (pB (0 ≤ r ∧ r ≤ 5) (x) (y)) := by
  refine g_met RX8 rfl (by decide +kernel) [(0, .int (J (r)))] rfl (Nat.le_of_ble_eq_true rfl) (fun Θ F hR => ?_)
  refine g_iload_n F dX8_isRow_0 rfl 0 rfl ?_
  refine g_i2l F dX8_isRow_1 (by omega) ?_
  refine g_lconst F dX8_isRow_2 0 (by decide) ?_
  refine g_ldc2 F ck_X8_72 dX8_isRow_3 (5) (by decide) ?_
  refine g_callS 3 F (As := [.long (Lg (r)), .long (Lg (0)), .long (Lg (5))]) (st := []) (c_X8_in l D ad x y (r) (0) (5) (by omega) (by omega) (by omega)) rfl mk_X8_74 ki_X8_in kc_X8_in (by decide +kernel) rfl (by decide) dX8_isRow_6 rfl (Nat.le_of_ble_eq_true rfl) (pB_k ?_)
  exact g_zreturn F hR dX8_isRow_9 (by split <;> simp) (pB_i (by rfl) rfl rfl)

set_option maxRecDepth 20000 in
theorem c_X8_isText (l : Launch) (D : gD) (ad : gA) (x : gX) (y : gY) (r : Int) (hr : i32 r) : gC l D ad 1 yX8_isText cX8_isText 1 (some .boolean) [.int (J (r))] x y (pB (0 ≤ r ∧ r ≤ 3) (x) (y)) := by
  refine g_met RX8 rfl (by decide +kernel) [(0, .int (J (r)))] rfl (Nat.le_of_ble_eq_true rfl) (fun Θ F hR => ?_)
  refine g_iload_n F dX8_isText_0 rfl 0 rfl ?_
  refine g_i2l F dX8_isText_1 (by omega) ?_
  refine g_lconst F dX8_isText_2 0 (by decide) ?_
  refine g_ldc2 F ck_X8_78 dX8_isText_3 (3) (by decide) ?_
  refine g_callS 3 F (As := [.long (Lg (r)), .long (Lg (0)), .long (Lg (3))]) (st := []) (c_X8_in l D ad x y (r) (0) (3) (by omega) (by omega) (by omega)) rfl mk_X8_74 ki_X8_in kc_X8_in (by decide +kernel) rfl (by decide) dX8_isText_6 rfl (Nat.le_of_ble_eq_true rfl) (pB_k ?_)
  exact g_zreturn F hR dX8_isText_9 (by split <;> simp) (pB_i (by rfl) rfl rfl)

set_option maxRecDepth 20000 in
theorem c_X8_isClerk (l : Launch) (D : gD) (ad : gA) (x : gX) (y : gY) (k : Int) (hk : i32 k) : gC l D ad 0 yX8_isClerk cX8_isClerk 1 (some .boolean) [.int (J (k))] x y (pB (k = 2 ∨ k = 5) (x) (y)) := by
  refine g_met RX8 rfl (by decide +kernel) [(0, .int (J (k)))] rfl (Nat.le_of_ble_eq_true rfl) (fun Θ F hR => ?_)
  refine g_iload_n F dX8_isClerk_0 rfl 0 rfl ?_
  refine g_iconst F dX8_isClerk_1 (2) (by decide) ?_
  refine g_icmp_eq 10 F dX8_isClerk_2 (by omega) (by decide) rfl (fun c_1 => ?_) (fun c_1 => ?_)
  · skip
    refine g_iconst F dX8_isClerk_10 (1) (by decide) ?_
    refine g_goto F 15 dX8_isClerk_11 rfl ?_
    exact g_zreturn F hR dX8_isClerk_15 (by omega) (pB_i (by split <;> omega) rfl rfl)
  · skip
    refine g_iload_n F dX8_isClerk_5 rfl 0 rfl ?_
    refine g_iconst F dX8_isClerk_6 (5) (by decide) ?_
    refine g_icmp_ne 14 F dX8_isClerk_7 (by omega) (by decide) rfl (fun c_2 => ?_) (fun c_2 => ?_)
    · skip
      refine g_iconst F dX8_isClerk_14 (0) (by decide) ?_
      exact g_zreturn F hR dX8_isClerk_15 (by omega) (pB_i (by split <;> omega) rfl rfl)
    · skip
      refine g_iconst F dX8_isClerk_10 (1) (by decide) ?_
      refine g_goto F 15 dX8_isClerk_11 rfl ?_
      exact g_zreturn F hR dX8_isClerk_15 (by omega) (pB_i (by split <;> omega) rfl rfl)

set_option maxRecDepth 20000 in
theorem c_X8_hardBy (l : Launch) (D : gD) (ad : gA) (x : gX) (y : gY) (k h : Int) (hk : 0 ≤ k ∧ k ≤ 5) (hh : 0 ≤ h ∧ h ≤ 9) : gC l D ad 1 yX8_hardBy cX8_hardBy 2 (some .int) [.int (J (k)), .int (J (h))] x y (pI (sHard k h) (x) (y)) := by
  refine g_met RX8 rfl (by decide +kernel) [(0, .int (J (k))), (1, .int (J (h)))] rfl (Nat.le_of_ble_eq_true rfl) (fun Θ F hR => ?_)
  refine g_iload_n F dX8_hardBy_0 rfl 0 rfl ?_
  refine g_iconst F dX8_hardBy_1 (1) (by decide) ?_
  refine g_icmp_ne 11 F dX8_hardBy_2 (by omega) (by decide) rfl (fun c_1 => ?_) (fun c_1 => ?_)
  · skip
    refine g_iload_n F dX8_hardBy_11 rfl 0 rfl ?_
    refine g_iconst F dX8_hardBy_12 (4) (by decide) ?_
    refine g_icmp_ne 22 F dX8_hardBy_13 (by omega) (by decide) rfl (fun c_2 => ?_) (fun c_2 => ?_)
    · skip
      refine g_iload_n F dX8_hardBy_22 rfl 0 rfl ?_
      refine g_callS 1 F (As := [.int (J (k))]) (st := []) (c_X8_isClerk l D ad x y (k) (by omega)) rfl mk_X8_160 ki_X8_isClerk kc_X8_isClerk (by decide +kernel) rfl (by decide) dX8_hardBy_23 rfl (Nat.le_of_ble_eq_true rfl) (pB_k ?_)
      refine g_ifb_eq 35 F dX8_hardBy_26 rfl (fun c_3 => ?_) (fun c_3 => ?_)
      · skip
        refine g_iload_n F dX8_hardBy_35 rfl 1 rfl ?_
        exact g_ireturn F hR dX8_hardBy_36 (pI_i (by unfold sHard; (repeat' split) <;> omega) rfl rfl)
      · skip
        refine g_iload_n F dX8_hardBy_29 rfl 1 rfl ?_
        refine g_iconst F dX8_hardBy_30 (2) (by decide) ?_
        refine g_idivp F dX8_hardBy_31 (by omega) (by decide) (by omega) (by decide) ?_
        refine g_goto F 36 dX8_hardBy_32 rfl ?_
        exact g_ireturn F hR dX8_hardBy_36 (pI_i (by unfold sHard; (repeat' split) <;> omega) rfl rfl)
    · skip
      refine g_iload_n F dX8_hardBy_16 rfl 1 rfl ?_
      refine g_iconst F dX8_hardBy_17 (5) (by decide) ?_
      refine g_iadd F dX8_hardBy_18 ?_
      refine g_goto F 36 dX8_hardBy_19 rfl ?_
      exact g_ireturn F hR dX8_hardBy_36 (pI_i (by unfold sHard; (repeat' split) <;> omega) rfl rfl)
  · skip
    refine g_iload_n F dX8_hardBy_5 rfl 1 rfl ?_
    refine g_iconst F dX8_hardBy_6 (3) (by decide) ?_
    refine g_iadd F dX8_hardBy_7 ?_
    refine g_goto F 36 dX8_hardBy_8 rfl ?_
    exact g_ireturn F hR dX8_hardBy_36 (pI_i (by unfold sHard; (repeat' split) <;> omega) rfl rfl)

set_option maxRecDepth 20000 in
theorem c_X8_kindOfLetter (l : Launch) (D : gD) (ad : gA) (x : gX) (y : gY) (v : Int) (hv : i32 v) : gC l D ad 0 yX8_kindOfLetter cX8_kindOfLetter 1 (some .int) [.int (J (v))] x y (pI (kdO v) (x) (y)) := by
  refine g_met RX8 rfl (by decide +kernel) [(0, .int (J (v)))] rfl (Nat.le_of_ble_eq_true rfl) (fun Θ F hR => ?_)
  refine g_iload_n F dX8_kindOfLetter_0 rfl 0 rfl ?_
  refine g_bipush F dX8_kindOfLetter_1 (109) (by decide) ?_
  refine g_icmp_ne 10 F dX8_kindOfLetter_3 (by omega) (by decide) rfl (fun c_1 => ?_) (fun c_1 => ?_)
  · skip
    refine g_iload_n F dX8_kindOfLetter_10 rfl 0 rfl ?_
    refine g_bipush F dX8_kindOfLetter_11 (112) (by decide) ?_
    refine g_icmp_ne 20 F dX8_kindOfLetter_13 (by omega) (by decide) rfl (fun c_2 => ?_) (fun c_2 => ?_)
    · skip
      refine g_iload_n F dX8_kindOfLetter_20 rfl 0 rfl ?_
      refine g_bipush F dX8_kindOfLetter_21 (99) (by decide) ?_
      refine g_icmp_ne 30 F dX8_kindOfLetter_23 (by omega) (by decide) rfl (fun c_3 => ?_) (fun c_3 => ?_)
      · skip
        refine g_iload_n F dX8_kindOfLetter_30 rfl 0 rfl ?_
        refine g_bipush F dX8_kindOfLetter_31 (119) (by decide) ?_
        refine g_icmp_ne 40 F dX8_kindOfLetter_33 (by omega) (by decide) rfl (fun c_4 => ?_) (fun c_4 => ?_)
        · skip
          refine g_iload_n F dX8_kindOfLetter_40 rfl 0 rfl ?_
          refine g_bipush F dX8_kindOfLetter_41 (120) (by decide) ?_
          refine g_icmp_ne 50 F dX8_kindOfLetter_43 (by omega) (by decide) rfl (fun c_5 => ?_) (fun c_5 => ?_)
          · skip
            refine g_iload_n F dX8_kindOfLetter_50 rfl 0 rfl ?_
            refine g_bipush F dX8_kindOfLetter_51 (110) (by decide) ?_
            refine g_icmp_ne 60 F dX8_kindOfLetter_53 (by omega) (by decide) rfl (fun c_6 => ?_) (fun c_6 => ?_)
            · skip
              refine g_bipush F dX8_kindOfLetter_60 (-9) (by decide) ?_
              exact g_ireturn F hR dX8_kindOfLetter_62 (pI_i (by unfold kdO; (repeat' split) <;> omega) rfl rfl)
            · skip
              refine g_iconst F dX8_kindOfLetter_56 (5) (by decide) ?_
              refine g_goto F 62 dX8_kindOfLetter_57 rfl ?_
              exact g_ireturn F hR dX8_kindOfLetter_62 (pI_i (by unfold kdO; (repeat' split) <;> omega) rfl rfl)
          · skip
            refine g_iconst F dX8_kindOfLetter_46 (4) (by decide) ?_
            refine g_goto F 62 dX8_kindOfLetter_47 rfl ?_
            exact g_ireturn F hR dX8_kindOfLetter_62 (pI_i (by unfold kdO; (repeat' split) <;> omega) rfl rfl)
        · skip
          refine g_iconst F dX8_kindOfLetter_36 (3) (by decide) ?_
          refine g_goto F 62 dX8_kindOfLetter_37 rfl ?_
          exact g_ireturn F hR dX8_kindOfLetter_62 (pI_i (by unfold kdO; (repeat' split) <;> omega) rfl rfl)
      · skip
        refine g_iconst F dX8_kindOfLetter_26 (2) (by decide) ?_
        refine g_goto F 62 dX8_kindOfLetter_27 rfl ?_
        exact g_ireturn F hR dX8_kindOfLetter_62 (pI_i (by unfold kdO; (repeat' split) <;> omega) rfl rfl)
    · skip
      refine g_iconst F dX8_kindOfLetter_16 (1) (by decide) ?_
      refine g_goto F 62 dX8_kindOfLetter_17 rfl ?_
      exact g_ireturn F hR dX8_kindOfLetter_62 (pI_i (by unfold kdO; (repeat' split) <;> omega) rfl rfl)
  · skip
    refine g_iconst F dX8_kindOfLetter_6 (0) (by decide) ?_
    refine g_goto F 62 dX8_kindOfLetter_7 rfl ?_
    exact g_ireturn F hR dX8_kindOfLetter_62 (pI_i (by unfold kdO; (repeat' split) <;> omega) rfl rfl)

set_option maxRecDepth 20000 in
theorem c_X8_plainFeels (l : Launch) (D : gD) (ad : gA) (x : gX) (y : gY) (z : gX) (i h : Int) (hST : ST z y) (hN : NOK z) (hi : 0 ≤ i ∧ i < z 10 0 0) (hh : 0 ≤ h ∧ h ≤ 100) : gC l D ad 1 yX8_plainFeels cX8_plainFeels 3 (some .int) [.ref (ad 8 (0)), .int (J (i)), .int (J (h))] x y (pI (sPlain (z 12 0 0) (z 3 i 0) h) (x) (y)) := by
  refine g_met RX8 rfl (by decide +kernel) [(0, .ref (ad 8 (0))), (1, .int (J (i))), (2, .int (J (h)))] rfl (Nat.le_of_ble_eq_true rfl) (fun Θ F hR => ?_)
  have hm := hN.2.2.2 i hi.1 hi.2
  have h10 := hN.2.1
  refine g_iload_n F dX8_plainFeels_0 rfl 2 rfl ?_
  refine g_aload_n F dX8_plainFeels_1 rfl 0 rfl ?_
  refine gg_Model_beliefs F fk_X8_19 dX8_plainFeels_2 ?_
  refine g_iload_n F dX8_plainFeels_5 rfl 1 rfl ?_
  refine ga_43 F (by omega) dX8_plainFeels_6 ?_
  refine g_topi (b := z 3 (i) 0) ((hST.2.2.2.2.2 _ (by omega) (by omega)).2.2.1) ?_
  refine g_iconst F dX8_plainFeels_7 (4) (by decide) ?_
  refine g_icmp_le 18 F dX8_plainFeels_8 (by omega) (by decide) rfl (fun c_1 => ?_) (fun c_1 => ?_)
  · skip
    refine g_iconst F dX8_plainFeels_18 (0) (by decide) ?_
    refine g_isub F dX8_plainFeels_19 ?_
    refine g_callS 1 F (As := [.int (J ((h) - (0)))]) (st := []) (c_X8_some l D ad x y ((h) - (0)) (by omega)) rfl mk_X8_163 ki_X8_some kc_X8_some (by decide +kernel) rfl (by decide) dX8_plainFeels_20 rfl (Nat.le_of_ble_eq_true rfl) (pI_k ?_)
    exact g_ireturn F hR dX8_plainFeels_23 (pI_i (by unfold sPlain; (repeat' split) <;> omega) rfl rfl)
  · skip
    refine g_aload_n F dX8_plainFeels_11 rfl 0 rfl ?_
    refine gg_Model_mercy F fk_X8_148 dX8_plainFeels_12 ?_
    refine g_topi (b := z 12 0 0) (hST.2.1) ?_
    refine g_goto F 19 dX8_plainFeels_15 rfl ?_
    refine g_isub F dX8_plainFeels_19 ?_
    refine g_callS 1 F (As := [.int (J ((h) - (z 12 0 0)))]) (st := []) (c_X8_some l D ad x y ((h) - (z 12 0 0)) (by omega)) rfl mk_X8_163 ki_X8_some kc_X8_some (by decide +kernel) rfl (by decide) dX8_plainFeels_20 rfl (Nat.le_of_ble_eq_true rfl) (pI_k ?_)
    exact g_ireturn F hR dX8_plainFeels_23 (pI_i (by unfold sPlain; (repeat' split) <;> omega) rfl rfl)

set_option maxRecDepth 20000 in
theorem c_X8_burnsBy (l : Launch) (D : gD) (ad : gA) (x : gX) (y : gY) (z : gX) (i k d h : Int) (hST : ST z y) (hN : NOK z) (hi : 0 ≤ i ∧ i < z 10 0 0) (hk : 0 ≤ k ∧ k ≤ 5) (hd : 0 ≤ d ∧ d ≤ 9) (hh : 0 ≤ h ∧ h ≤ 100) : gC l D ad 2 yX8_burnsBy cX8_burnsBy 6 (some .int) [.ref (ad 8 (0)), .int (J (i)), .int (J (k)), .int (J (d)), .int (J (h))] x y (pI (sBurn (z 11 0 0) (z 12 0 0) k (z 3 i 0) d h) (x) (y)) := by
  refine g_met RX8 rfl (by decide +kernel) [(0, .ref (ad 8 (0))), (1, .int (J (i))), (2, .int (J (k))), (3, .int (J (d))), (4, .int (J (h)))] rfl (Nat.le_of_ble_eq_true rfl) (fun Θ F hR => ?_)
  have hm := hN.2.2.2 i hi.1 hi.2
  have h10 := hN.2.1
  have hp := sPlain_r (b := z 3 i 0) hh hN.1.2.1.1
  have hf := sFelt_r (k := k) (b := z 3 i 0) hh hN.1.2.1.1
  have hpm := pm_r hN.1.1 hf
  have hH := sHard_r (k := k) hd
  have hq : sFelt (z 12 0 0) k (z 3 i 0) h = if k = 5 then sPlain (z 12 0 0) (z 3 i 0) h / 2 else sPlain (z 12 0 0) (z 3 i 0) h := rfl
  refine g_iload_n F dX8_burnsBy_0 rfl 2 rfl ?_
  refine g_iconst F dX8_burnsBy_1 (5) (by decide) ?_
  refine g_icmp_ne 17 F dX8_burnsBy_2 (by omega) (by decide) rfl (fun c_1 => ?_) (fun c_1 => ?_)
  · skip
    refine g_aload_n F dX8_burnsBy_17 rfl 0 rfl ?_
    refine g_iload_n F dX8_burnsBy_18 rfl 1 rfl ?_
    refine g_iload F dX8_burnsBy_19 4 rfl ?_
    refine g_callV 2 F (As := [.int (J (i)), .int (J (h))]) (st := []) (c_X8_plainFeels l D ad x y z (i) (h) (hST) (hN) (by omega) (by omega)) (gR_8) rfl mk_X8_166 ki_X8_plainFeels kc_X8_plainFeels (by decide +kernel) rfl (by decide) dX8_burnsBy_21 rfl (Nat.le_of_ble_eq_true rfl) (pI_k ?_)
    refine g_topi (b := sFelt (z 12 0 0) k (z 3 i 0) h) (by rw [hq]; split <;> omega) ?_
    refine g_istore F [(5, .int (J (sFelt (z 12 0 0) k (z 3 i 0) h))), (0, .ref (ad 8 (0))), (1, .int (J (i))), (2, .int (J (k))), (3, .int (J (d))), (4, .int (J (h)))] dX8_burnsBy_24 (by decide) rfl ?_
    refine g_aload_n F dX8_burnsBy_26 rfl 1 rfl ?_
    refine gg_Model_pounds F fk_X8_145 dX8_burnsBy_27 ?_
    refine g_topi (b := z 11 0 0) (hST.1) ?_
    refine g_iload F dX8_burnsBy_30 0 rfl ?_
    refine g_imul F dX8_burnsBy_32 ?_
    refine g_iload_n F dX8_burnsBy_33 rfl 3 rfl ?_
    refine g_iload_n F dX8_burnsBy_34 rfl 4 rfl ?_
    refine g_callS 2 F (As := [.int (J (k)), .int (J (d))]) (st := [.int (J ((z 11 0 0) * (sFelt (z 12 0 0) k (z 3 i 0) h)))]) (c_X8_hardBy l D ad x y (k) (d) (by omega) (by omega)) rfl mk_X8_169 ki_X8_hardBy kc_X8_hardBy (by decide +kernel) rfl (by decide) dX8_burnsBy_35 rfl (Nat.le_of_ble_eq_true rfl) (pI_k ?_)
    refine g_isub F dX8_burnsBy_38 ?_
    refine g_callS 1 F (As := [.int (J (((z 11 0 0) * (sFelt (z 12 0 0) k (z 3 i 0) h)) - (sHard (k) (d))))]) (st := []) (c_X8_some l D ad x y (((z 11 0 0) * (sFelt (z 12 0 0) k (z 3 i 0) h)) - (sHard (k) (d))) (by omega)) rfl mk_X8_163 ki_X8_some kc_X8_some (by decide +kernel) rfl (by decide) dX8_burnsBy_39 rfl (Nat.le_of_ble_eq_true rfl) (pI_k ?_)
    exact g_ireturn F hR dX8_burnsBy_42 (pI_i (by rfl) rfl rfl)
  · skip
    refine g_aload_n F dX8_burnsBy_5 rfl 0 rfl ?_
    refine g_iload_n F dX8_burnsBy_6 rfl 1 rfl ?_
    refine g_iload F dX8_burnsBy_7 4 rfl ?_
    refine g_callV 2 F (As := [.int (J (i)), .int (J (h))]) (st := []) (c_X8_plainFeels l D ad x y z (i) (h) (hST) (hN) (by omega) (by omega)) (gR_8) rfl mk_X8_166 ki_X8_plainFeels kc_X8_plainFeels (by decide +kernel) rfl (by decide) dX8_burnsBy_9 rfl (Nat.le_of_ble_eq_true rfl) (pI_k ?_)
    refine g_iconst F dX8_burnsBy_12 (2) (by decide) ?_
    refine g_idivp F dX8_burnsBy_13 (by omega) (by decide) (by omega) (by decide) ?_
    refine g_goto F 24 dX8_burnsBy_14 rfl ?_
    refine g_topi (b := sFelt (z 12 0 0) k (z 3 i 0) h) (by rw [hq]; split <;> omega) ?_
    refine g_istore F [(5, .int (J (sFelt (z 12 0 0) k (z 3 i 0) h))), (0, .ref (ad 8 (0))), (1, .int (J (i))), (2, .int (J (k))), (3, .int (J (d))), (4, .int (J (h)))] dX8_burnsBy_24 (by decide) rfl ?_
    refine g_aload_n F dX8_burnsBy_26 rfl 1 rfl ?_
    refine gg_Model_pounds F fk_X8_145 dX8_burnsBy_27 ?_
    refine g_topi (b := z 11 0 0) (hST.1) ?_
    refine g_iload F dX8_burnsBy_30 0 rfl ?_
    refine g_imul F dX8_burnsBy_32 ?_
    refine g_iload_n F dX8_burnsBy_33 rfl 3 rfl ?_
    refine g_iload_n F dX8_burnsBy_34 rfl 4 rfl ?_
    refine g_callS 2 F (As := [.int (J (k)), .int (J (d))]) (st := [.int (J ((z 11 0 0) * (sFelt (z 12 0 0) k (z 3 i 0) h)))]) (c_X8_hardBy l D ad x y (k) (d) (by omega) (by omega)) rfl mk_X8_169 ki_X8_hardBy kc_X8_hardBy (by decide +kernel) rfl (by decide) dX8_burnsBy_35 rfl (Nat.le_of_ble_eq_true rfl) (pI_k ?_)
    refine g_isub F dX8_burnsBy_38 ?_
    refine g_callS 1 F (As := [.int (J (((z 11 0 0) * (sFelt (z 12 0 0) k (z 3 i 0) h)) - (sHard (k) (d))))]) (st := []) (c_X8_some l D ad x y (((z 11 0 0) * (sFelt (z 12 0 0) k (z 3 i 0) h)) - (sHard (k) (d))) (by omega)) rfl mk_X8_163 ki_X8_some kc_X8_some (by decide +kernel) rfl (by decide) dX8_burnsBy_39 rfl (Nat.le_of_ble_eq_true rfl) (pI_k ?_)
    exact g_ireturn F hR dX8_burnsBy_42 (pI_i (by rfl) rfl rfl)

set_option maxRecDepth 20000 in
theorem c_X8_burns (l : Launch) (D : gD) (ad : gA) (x : gX) (y : gY) (z : gX) (i h : Int) (hST : ST z y) (hN : NOK z) (hi : 0 ≤ i ∧ i < z 10 0 0) (hh : 0 ≤ h ∧ h ≤ 100) : gC l D ad 3 yX8_burns cX8_burns 3 (some .int) [.ref (ad 8 (0)), .int (J (i)), .int (J (h))] x y (pI (bU z i h) (x) (y)) := by
  refine g_met RX8 rfl (by decide +kernel) [(0, .ref (ad 8 (0))), (1, .int (J (i))), (2, .int (J (h)))] rfl (Nat.le_of_ble_eq_true rfl) (fun Θ F hR => ?_)
  have hm := hN.2.2.2 i hi.1 hi.2
  have h10 := hN.2.1
  refine g_aload_n F dX8_burns_0 rfl 0 rfl ?_
  refine g_iload_n F dX8_burns_1 rfl 1 rfl ?_
  refine g_aload_n F dX8_burns_2 rfl 0 rfl ?_
  refine gg_Model_kinds F fk_X8_13 dX8_burns_3 ?_
  refine g_iload_n F dX8_burns_6 rfl 1 rfl ?_
  refine ga_41 F (by omega) dX8_burns_7 ?_
  refine g_topi (b := z 1 (i) 0) ((hST.2.2.2.2.2 _ (by omega) (by omega)).1) ?_
  refine g_aload_n F dX8_burns_8 rfl 0 rfl ?_
  refine gg_Model_hands F fk_X8_22 dX8_burns_9 ?_
  refine g_iload_n F dX8_burns_12 rfl 1 rfl ?_
  refine ga_44 F (by omega) dX8_burns_13 ?_
  refine g_topi (b := z 4 (i) 0) ((hST.2.2.2.2.2 _ (by omega) (by omega)).2.2.2) ?_
  refine g_iload_n F dX8_burns_14 rfl 2 rfl ?_
  refine g_callV 4 F (As := [.int (J (i)), .int (J (z 1 (i) 0)), .int (J (z 4 (i) 0)), .int (J (h))]) (st := []) (c_X8_burnsBy l D ad x y z (i) (z 1 (i) 0) (z 4 (i) 0) (h) (hST) (hN) (by omega) (by omega) (by omega) (by omega)) (gR_8) rfl mk_X8_172 ki_X8_burnsBy kc_X8_burnsBy (by decide +kernel) rfl (by decide) dX8_burns_15 rfl (Nat.le_of_ble_eq_true rfl) (pI_k ?_)
  exact g_ireturn F hR dX8_burns_18 (pI_i (by rfl) rfl rfl)

set_option maxRecDepth 20000 in
theorem c_X8_comesBy (l : Launch) (D : gD) (ad : gA) (x : gX) (y : gY) (z : gX) (i k h : Int) (hST : ST z y) (hN : NOK z) (hi : 0 ≤ i ∧ i < z 10 0 0) (hk : 0 ≤ k ∧ k ≤ 5) (hh : 0 ≤ h ∧ h ≤ 100) : gC l D ad 1 yX8_comesBy cX8_comesBy 5 (some .boolean) [.ref (ad 8 (0)), .int (J (i)), .int (J (k)), .int (J (h))] x y (pB (sComes k (z 2 i 0) (z 3 i 0) h) (x) (y)) := by
  refine g_met RX8 rfl (by decide +kernel) [(0, .ref (ad 8 (0))), (1, .int (J (i))), (2, .int (J (k))), (3, .int (J (h)))] rfl (Nat.le_of_ble_eq_true rfl) (fun Θ F hR => ?_)
  have hm := hN.2.2.2 i hi.1 hi.2
  have h10 := hN.2.1
  refine g_aload_n F dX8_comesBy_0 rfl 0 rfl ?_
  refine gg_Model_guilts F fk_X8_16 dX8_comesBy_1 ?_
  refine g_iload_n F dX8_comesBy_4 rfl 1 rfl ?_
  refine ga_42 F (by omega) dX8_comesBy_5 ?_
  refine g_topi (b := z 2 (i) 0) ((hST.2.2.2.2.2 _ (by omega) (by omega)).2.1) ?_
  refine g_if_eq 19 F dX8_comesBy_6 (by omega) rfl (fun c_1 => ?_) (fun c_1 => ?_)
  · skip
    refine g_iconst F dX8_comesBy_19 (1) (by decide) ?_
    refine g_goto F 24 dX8_comesBy_20 rfl ?_
    refine g_istore F [(4, .int (J (1))), (0, .ref (ad 8 (0))), (1, .int (J (i))), (2, .int (J (k))), (3, .int (J (h)))] dX8_comesBy_24 (by decide) rfl ?_
    refine g_iload_n F dX8_comesBy_26 rfl 3 rfl ?_
    refine g_iconst F dX8_comesBy_27 (4) (by decide) ?_
    refine g_icmp_eq 60 F dX8_comesBy_28 (by omega) (by decide) rfl (fun c_2 => ?_) (fun c_2 => ?_)
    · skip
      refine g_iconst F dX8_comesBy_60 (1) (by decide) ?_
      refine g_goto F 65 dX8_comesBy_61 rfl ?_
      exact g_zreturn F hR dX8_comesBy_65 (by omega) (pB_i (by split <;> omega) rfl rfl)
    · skip
      refine g_iload F dX8_comesBy_31 0 rfl ?_
      refine g_if_eq 64 F dX8_comesBy_33 (by decide) rfl (fun c_3 => ?_) (fun c_3 => ?_)
      · skip
        refine g_iconst F dX8_comesBy_64 (0) (by decide) ?_
        exact g_zreturn F hR dX8_comesBy_65 (by omega) (pB_i (by split <;> omega) rfl rfl)
      · skip
        refine g_iload_n F dX8_comesBy_36 rfl 3 rfl ?_
        refine g_callS 1 F (As := [.int (J (k))]) (st := []) (c_X8_isClerk l D ad x y (k) (by omega)) rfl mk_X8_160 ki_X8_isClerk kc_X8_isClerk (by decide +kernel) rfl (by decide) dX8_comesBy_37 rfl (Nat.le_of_ble_eq_true rfl) (pB_k ?_)
        refine g_ifb_eq 49 F dX8_comesBy_40 rfl (fun c_4 => ?_) (fun c_4 => ?_)
        · skip
          refine g_iload_n F dX8_comesBy_49 rfl 3 rfl ?_
          refine g_iconst F dX8_comesBy_50 (3) (by decide) ?_
          refine g_icmp_ne 60 F dX8_comesBy_51 (by omega) (by decide) rfl (fun c_5 => ?_) (fun c_5 => ?_)
          · skip
            refine g_iconst F dX8_comesBy_60 (1) (by decide) ?_
            refine g_goto F 65 dX8_comesBy_61 rfl ?_
            exact g_zreturn F hR dX8_comesBy_65 (by omega) (pB_i (by split <;> omega) rfl rfl)
          · skip
            refine g_iload_n F dX8_comesBy_54 rfl 4 rfl ?_
            refine g_bipush F dX8_comesBy_55 (10) (by decide) ?_
            refine g_icmp_gt 64 F dX8_comesBy_57 (by omega) (by decide) rfl (fun c_6 => ?_) (fun c_6 => ?_)
            · skip
              refine g_iconst F dX8_comesBy_64 (0) (by decide) ?_
              exact g_zreturn F hR dX8_comesBy_65 (by omega) (pB_i (by split <;> omega) rfl rfl)
            · skip
              refine g_iconst F dX8_comesBy_60 (1) (by decide) ?_
              refine g_goto F 65 dX8_comesBy_61 rfl ?_
              exact g_zreturn F hR dX8_comesBy_65 (by omega) (pB_i (by split <;> omega) rfl rfl)
        · skip
          refine g_iload_n F dX8_comesBy_43 rfl 4 rfl ?_
          refine g_bipush F dX8_comesBy_44 (20) (by decide) ?_
          refine g_icmp_gt 64 F dX8_comesBy_46 (by omega) (by decide) rfl (fun c_7 => ?_) (fun c_7 => ?_)
          · skip
            refine g_iconst F dX8_comesBy_64 (0) (by decide) ?_
            exact g_zreturn F hR dX8_comesBy_65 (by omega) (pB_i (by split <;> omega) rfl rfl)
          · skip
            refine g_iload_n F dX8_comesBy_49 rfl 3 rfl ?_
            refine g_iconst F dX8_comesBy_50 (3) (by decide) ?_
            refine g_icmp_ne 60 F dX8_comesBy_51 (by omega) (by decide) rfl (fun c_8 => ?_) (fun c_8 => ?_)
            · skip
              refine g_iconst F dX8_comesBy_60 (1) (by decide) ?_
              refine g_goto F 65 dX8_comesBy_61 rfl ?_
              exact g_zreturn F hR dX8_comesBy_65 (by omega) (pB_i (by split <;> omega) rfl rfl)
            · skip
              refine g_iload_n F dX8_comesBy_54 rfl 4 rfl ?_
              refine g_bipush F dX8_comesBy_55 (10) (by decide) ?_
              refine g_icmp_gt 64 F dX8_comesBy_57 (by omega) (by decide) rfl (fun c_9 => ?_) (fun c_9 => ?_)
              · skip
                refine g_iconst F dX8_comesBy_64 (0) (by decide) ?_
                exact g_zreturn F hR dX8_comesBy_65 (by omega) (pB_i (by split <;> omega) rfl rfl)
              · skip
                refine g_iconst F dX8_comesBy_60 (1) (by decide) ?_
                refine g_goto F 65 dX8_comesBy_61 rfl ?_
                exact g_zreturn F hR dX8_comesBy_65 (by omega) (pB_i (by split <;> omega) rfl rfl)
  · skip
    refine g_aload_n F dX8_comesBy_9 rfl 0 rfl ?_
    refine gg_Model_beliefs F fk_X8_19 dX8_comesBy_10 ?_
    refine g_iload_n F dX8_comesBy_13 rfl 1 rfl ?_
    refine ga_43 F (by omega) dX8_comesBy_14 ?_
    refine g_topi (b := z 3 (i) 0) ((hST.2.2.2.2.2 _ (by omega) (by omega)).2.2.1) ?_
    refine g_iconst F dX8_comesBy_15 (3) (by decide) ?_
    refine g_icmp_ge 23 F dX8_comesBy_16 (by omega) (by decide) rfl (fun c_10 => ?_) (fun c_10 => ?_)
    · skip
      refine g_iconst F dX8_comesBy_23 (0) (by decide) ?_
      refine g_istore F [(4, .int (J (0))), (0, .ref (ad 8 (0))), (1, .int (J (i))), (2, .int (J (k))), (3, .int (J (h)))] dX8_comesBy_24 (by decide) rfl ?_
      refine g_iload_n F dX8_comesBy_26 rfl 3 rfl ?_
      refine g_iconst F dX8_comesBy_27 (4) (by decide) ?_
      refine g_icmp_eq 60 F dX8_comesBy_28 (by omega) (by decide) rfl (fun c_11 => ?_) (fun c_11 => ?_)
      · skip
        refine g_iconst F dX8_comesBy_60 (1) (by decide) ?_
        refine g_goto F 65 dX8_comesBy_61 rfl ?_
        exact g_zreturn F hR dX8_comesBy_65 (by omega) (pB_i (by split <;> omega) rfl rfl)
      · skip
        refine g_iload F dX8_comesBy_31 0 rfl ?_
        refine g_if_eq 64 F dX8_comesBy_33 (by decide) rfl (fun c_12 => ?_) (fun c_12 => ?_)
        · skip
          refine g_iconst F dX8_comesBy_64 (0) (by decide) ?_
          exact g_zreturn F hR dX8_comesBy_65 (by omega) (pB_i (by split <;> omega) rfl rfl)
        · skip
          refine g_iload_n F dX8_comesBy_36 rfl 3 rfl ?_
          refine g_callS 1 F (As := [.int (J (k))]) (st := []) (c_X8_isClerk l D ad x y (k) (by omega)) rfl mk_X8_160 ki_X8_isClerk kc_X8_isClerk (by decide +kernel) rfl (by decide) dX8_comesBy_37 rfl (Nat.le_of_ble_eq_true rfl) (pB_k ?_)
          refine g_ifb_eq 49 F dX8_comesBy_40 rfl (fun c_13 => ?_) (fun c_13 => ?_)
          · skip
            refine g_iload_n F dX8_comesBy_49 rfl 3 rfl ?_
            refine g_iconst F dX8_comesBy_50 (3) (by decide) ?_
            refine g_icmp_ne 60 F dX8_comesBy_51 (by omega) (by decide) rfl (fun c_14 => ?_) (fun c_14 => ?_)
            · skip
              refine g_iconst F dX8_comesBy_60 (1) (by decide) ?_
              refine g_goto F 65 dX8_comesBy_61 rfl ?_
              exact g_zreturn F hR dX8_comesBy_65 (by omega) (pB_i (by split <;> omega) rfl rfl)
            · skip
              refine g_iload_n F dX8_comesBy_54 rfl 4 rfl ?_
              refine g_bipush F dX8_comesBy_55 (10) (by decide) ?_
              refine g_icmp_gt 64 F dX8_comesBy_57 (by omega) (by decide) rfl (fun c_15 => ?_) (fun c_15 => ?_)
              · skip
                refine g_iconst F dX8_comesBy_64 (0) (by decide) ?_
                exact g_zreturn F hR dX8_comesBy_65 (by omega) (pB_i (by split <;> omega) rfl rfl)
              · skip
                refine g_iconst F dX8_comesBy_60 (1) (by decide) ?_
                refine g_goto F 65 dX8_comesBy_61 rfl ?_
                exact g_zreturn F hR dX8_comesBy_65 (by omega) (pB_i (by split <;> omega) rfl rfl)
          · skip
            refine g_iload_n F dX8_comesBy_43 rfl 4 rfl ?_
            refine g_bipush F dX8_comesBy_44 (20) (by decide) ?_
            refine g_icmp_gt 64 F dX8_comesBy_46 (by omega) (by decide) rfl (fun c_16 => ?_) (fun c_16 => ?_)
            · skip
              refine g_iconst F dX8_comesBy_64 (0) (by decide) ?_
              exact g_zreturn F hR dX8_comesBy_65 (by omega) (pB_i (by split <;> omega) rfl rfl)
            · skip
              refine g_iload_n F dX8_comesBy_49 rfl 3 rfl ?_
              refine g_iconst F dX8_comesBy_50 (3) (by decide) ?_
              refine g_icmp_ne 60 F dX8_comesBy_51 (by omega) (by decide) rfl (fun c_17 => ?_) (fun c_17 => ?_)
              · skip
                refine g_iconst F dX8_comesBy_60 (1) (by decide) ?_
                refine g_goto F 65 dX8_comesBy_61 rfl ?_
                exact g_zreturn F hR dX8_comesBy_65 (by omega) (pB_i (by split <;> omega) rfl rfl)
              · skip
                refine g_iload_n F dX8_comesBy_54 rfl 4 rfl ?_
                refine g_bipush F dX8_comesBy_55 (10) (by decide) ?_
                refine g_icmp_gt 64 F dX8_comesBy_57 (by omega) (by decide) rfl (fun c_18 => ?_) (fun c_18 => ?_)
                · skip
                  refine g_iconst F dX8_comesBy_64 (0) (by decide) ?_
                  exact g_zreturn F hR dX8_comesBy_65 (by omega) (pB_i (by split <;> omega) rfl rfl)
                · skip
                  refine g_iconst F dX8_comesBy_60 (1) (by decide) ?_
                  refine g_goto F 65 dX8_comesBy_61 rfl ?_
                  exact g_zreturn F hR dX8_comesBy_65 (by omega) (pB_i (by split <;> omega) rfl rfl)
    · skip
      refine g_iconst F dX8_comesBy_19 (1) (by decide) ?_
      refine g_goto F 24 dX8_comesBy_20 rfl ?_
      refine g_istore F [(4, .int (J (1))), (0, .ref (ad 8 (0))), (1, .int (J (i))), (2, .int (J (k))), (3, .int (J (h)))] dX8_comesBy_24 (by decide) rfl ?_
      refine g_iload_n F dX8_comesBy_26 rfl 3 rfl ?_
      refine g_iconst F dX8_comesBy_27 (4) (by decide) ?_
      refine g_icmp_eq 60 F dX8_comesBy_28 (by omega) (by decide) rfl (fun c_19 => ?_) (fun c_19 => ?_)
      · skip
        refine g_iconst F dX8_comesBy_60 (1) (by decide) ?_
        refine g_goto F 65 dX8_comesBy_61 rfl ?_
        exact g_zreturn F hR dX8_comesBy_65 (by omega) (pB_i (by split <;> omega) rfl rfl)
      · skip
        refine g_iload F dX8_comesBy_31 0 rfl ?_
        refine g_if_eq 64 F dX8_comesBy_33 (by decide) rfl (fun c_20 => ?_) (fun c_20 => ?_)
        · skip
          refine g_iconst F dX8_comesBy_64 (0) (by decide) ?_
          exact g_zreturn F hR dX8_comesBy_65 (by omega) (pB_i (by split <;> omega) rfl rfl)
        · skip
          refine g_iload_n F dX8_comesBy_36 rfl 3 rfl ?_
          refine g_callS 1 F (As := [.int (J (k))]) (st := []) (c_X8_isClerk l D ad x y (k) (by omega)) rfl mk_X8_160 ki_X8_isClerk kc_X8_isClerk (by decide +kernel) rfl (by decide) dX8_comesBy_37 rfl (Nat.le_of_ble_eq_true rfl) (pB_k ?_)
          refine g_ifb_eq 49 F dX8_comesBy_40 rfl (fun c_21 => ?_) (fun c_21 => ?_)
          · skip
            refine g_iload_n F dX8_comesBy_49 rfl 3 rfl ?_
            refine g_iconst F dX8_comesBy_50 (3) (by decide) ?_
            refine g_icmp_ne 60 F dX8_comesBy_51 (by omega) (by decide) rfl (fun c_22 => ?_) (fun c_22 => ?_)
            · skip
              refine g_iconst F dX8_comesBy_60 (1) (by decide) ?_
              refine g_goto F 65 dX8_comesBy_61 rfl ?_
              exact g_zreturn F hR dX8_comesBy_65 (by omega) (pB_i (by split <;> omega) rfl rfl)
            · skip
              refine g_iload_n F dX8_comesBy_54 rfl 4 rfl ?_
              refine g_bipush F dX8_comesBy_55 (10) (by decide) ?_
              refine g_icmp_gt 64 F dX8_comesBy_57 (by omega) (by decide) rfl (fun c_23 => ?_) (fun c_23 => ?_)
              · skip
                refine g_iconst F dX8_comesBy_64 (0) (by decide) ?_
                exact g_zreturn F hR dX8_comesBy_65 (by omega) (pB_i (by split <;> omega) rfl rfl)
              · skip
                refine g_iconst F dX8_comesBy_60 (1) (by decide) ?_
                refine g_goto F 65 dX8_comesBy_61 rfl ?_
                exact g_zreturn F hR dX8_comesBy_65 (by omega) (pB_i (by split <;> omega) rfl rfl)
          · skip
            refine g_iload_n F dX8_comesBy_43 rfl 4 rfl ?_
            refine g_bipush F dX8_comesBy_44 (20) (by decide) ?_
            refine g_icmp_gt 64 F dX8_comesBy_46 (by omega) (by decide) rfl (fun c_24 => ?_) (fun c_24 => ?_)
            · skip
              refine g_iconst F dX8_comesBy_64 (0) (by decide) ?_
              exact g_zreturn F hR dX8_comesBy_65 (by omega) (pB_i (by split <;> omega) rfl rfl)
            · skip
              refine g_iload_n F dX8_comesBy_49 rfl 3 rfl ?_
              refine g_iconst F dX8_comesBy_50 (3) (by decide) ?_
              refine g_icmp_ne 60 F dX8_comesBy_51 (by omega) (by decide) rfl (fun c_25 => ?_) (fun c_25 => ?_)
              · skip
                refine g_iconst F dX8_comesBy_60 (1) (by decide) ?_
                refine g_goto F 65 dX8_comesBy_61 rfl ?_
                exact g_zreturn F hR dX8_comesBy_65 (by omega) (pB_i (by split <;> omega) rfl rfl)
              · skip
                refine g_iload_n F dX8_comesBy_54 rfl 4 rfl ?_
                refine g_bipush F dX8_comesBy_55 (10) (by decide) ?_
                refine g_icmp_gt 64 F dX8_comesBy_57 (by omega) (by decide) rfl (fun c_26 => ?_) (fun c_26 => ?_)
                · skip
                  refine g_iconst F dX8_comesBy_64 (0) (by decide) ?_
                  exact g_zreturn F hR dX8_comesBy_65 (by omega) (pB_i (by split <;> omega) rfl rfl)
                · skip
                  refine g_iconst F dX8_comesBy_60 (1) (by decide) ?_
                  refine g_goto F 65 dX8_comesBy_61 rfl ?_
                  exact g_zreturn F hR dX8_comesBy_65 (by omega) (pB_i (by split <;> omega) rfl rfl)

set_option maxRecDepth 20000 in
theorem c_X8_doesCome (l : Launch) (D : gD) (ad : gA) (x : gX) (y : gY) (z : gX) (i h : Int) (hST : ST z y) (hN : NOK z) (hi : 0 ≤ i ∧ i < z 10 0 0) (hh : 0 ≤ h ∧ h ≤ 100) : gC l D ad 2 yX8_doesCome cX8_doesCome 3 (some .boolean) [.ref (ad 8 (0)), .int (J (i)), .int (J (h))] x y (pB (cU z i h) (x) (y)) := by
  refine g_met RX8 rfl (by decide +kernel) [(0, .ref (ad 8 (0))), (1, .int (J (i))), (2, .int (J (h)))] rfl (Nat.le_of_ble_eq_true rfl) (fun Θ F hR => ?_)
  have hm := hN.2.2.2 i hi.1 hi.2
  have h10 := hN.2.1
  refine g_aload_n F dX8_doesCome_0 rfl 0 rfl ?_
  refine g_iload_n F dX8_doesCome_1 rfl 1 rfl ?_
  refine g_aload_n F dX8_doesCome_2 rfl 0 rfl ?_
  refine gg_Model_kinds F fk_X8_13 dX8_doesCome_3 ?_
  refine g_iload_n F dX8_doesCome_6 rfl 1 rfl ?_
  refine ga_41 F (by omega) dX8_doesCome_7 ?_
  refine g_topi (b := z 1 (i) 0) ((hST.2.2.2.2.2 _ (by omega) (by omega)).1) ?_
  refine g_iload_n F dX8_doesCome_8 rfl 2 rfl ?_
  refine g_callV 3 F (As := [.int (J (i)), .int (J (z 1 (i) 0)), .int (J (h))]) (st := []) (c_X8_comesBy l D ad x y z (i) (z 1 (i) 0) (h) (hST) (hN) (by omega) (by omega) (by omega)) (gR_8) rfl mk_X8_176 ki_X8_comesBy kc_X8_comesBy (by decide +kernel) rfl (by decide) dX8_doesCome_9 rfl (Nat.le_of_ble_eq_true rfl) (pB_k ?_)
  exact g_zreturn F hR dX8_doesCome_12 (by split <;> simp) (pB_i (by rfl) rfl rfl)

set_option maxRecDepth 20000 in
theorem c_X8_bearable (l : Launch) (D : gD) (ad : gA) (x : gX) (y : gY) (z : gX) (b i : Int) (hST : ST z y) (hN : NOK z) (hB : SB z y b) (hi : 0 ≤ i ∧ i < z 10 0 0) (hb : 0 ≤ b ∧ b ≤ 2628) : gC l D ad 0 yX8_bearable cX8_bearable 3 (some .int) [.ref (ad 8 (0)), .int (J (b)), .int (J (i))] x y (pI (z 13 0 0 + 2 * z 5 i 0) (x) (y)) := by
  refine g_met RX8 rfl (by decide +kernel) [(0, .ref (ad 8 (0))), (1, .int (J (b))), (2, .int (J (i)))] rfl (Nat.le_of_ble_eq_true rfl) (fun Θ F hR => ?_)
  have hm := hN.2.2.2 i hi.1 hi.2
  have h10 := hN.2.1
  refine g_aload_n F dX8_bearable_0 rfl 0 rfl ?_
  refine gg_Model_heals F fk_X8_151 dX8_bearable_1 ?_
  refine g_topi (b := z 13 0 0) (hST.2.2.1) ?_
  refine g_iconst F dX8_bearable_4 (2) (by decide) ?_
  refine g_aload_n F dX8_bearable_5 rfl 0 rfl ?_
  refine gg_Model_row F fk_X8_7 dX8_bearable_6 ?_
  refine g_iload_n F dX8_bearable_9 rfl 1 rfl ?_
  refine g_iconst F dX8_bearable_10 (5) (by decide) ?_
  refine g_iadd F dX8_bearable_11 ?_
  refine g_iload_n F dX8_bearable_12 rfl 2 rfl ?_
  refine g_iadd F dX8_bearable_13 ?_
  refine ga_40 F (by omega) dX8_bearable_14 ?_
  refine g_topi (b := z 5 i 0) (SB_5 hB hN.2.1.2 hi.1 hi.2) ?_
  refine g_imul F dX8_bearable_15 ?_
  refine g_iadd F dX8_bearable_16 ?_
  exact g_ireturn F hR dX8_bearable_17 (pI_i (by rfl) rfl rfl)

set_option maxRecDepth 20000 in
theorem c_X8_isClean (l : Launch) (D : gD) (ad : gA) (x : gX) (y : gY) (z : gX) (b i h : Int) (hST : ST z y) (hN : NOK z) (hB : SB z y b) (hi : 0 ≤ i ∧ i < z 10 0 0) (hb : 0 ≤ b ∧ b ≤ 2628) (hh : 0 ≤ h ∧ h ≤ 100) : gC l D ad 4 yX8_isClean cX8_isClean 4 (some .boolean) [.ref (ad 8 (0)), .int (J (b)), .int (J (i)), .int (J (h))] x y (pB (lU z i h ≤ 0) (x) (y)) := by
  refine g_met RX8 rfl (by decide +kernel) [(0, .ref (ad 8 (0))), (1, .int (J (b))), (2, .int (J (i))), (3, .int (J (h)))] rfl (Nat.le_of_ble_eq_true rfl) (fun Θ F hR => ?_)
  have hm := hN.2.2.2 i hi.1 hi.2
  have h10 := hN.2.1
  have hbu := bU_r hN.1 hm hh
  have hl := lU_le (z := z) (i := i) (h := h)
  refine g_aload_n F dX8_isClean_0 rfl 0 rfl ?_
  refine g_iload_n F dX8_isClean_1 rfl 2 rfl ?_
  refine g_iload_n F dX8_isClean_2 rfl 3 rfl ?_
  refine g_callV 2 F (As := [.int (J (i)), .int (J (h))]) (st := []) (c_X8_burns l D ad x y z (i) (h) (hST) (hN) (by omega) (by omega)) (gR_8) rfl mk_X8_179 ki_X8_burns kc_X8_burns (by decide +kernel) rfl (by decide) dX8_isClean_3 rfl (Nat.le_of_ble_eq_true rfl) (pI_k ?_)
  refine g_aload_n F dX8_isClean_6 rfl 0 rfl ?_
  refine g_iload_n F dX8_isClean_7 rfl 1 rfl ?_
  refine g_iload_n F dX8_isClean_8 rfl 2 rfl ?_
  refine g_callV 2 F (As := [.int (J (b)), .int (J (i))]) (st := [.int (J (bU z (i) (h)))]) (c_X8_bearable l D ad x y z (b) (i) (hST) (hN) (hB) (by omega) (by omega)) (gR_8) rfl mk_X8_182 ki_X8_bearable kc_X8_bearable (by decide +kernel) rfl (by decide) dX8_isClean_9 rfl (Nat.le_of_ble_eq_true rfl) (pI_k ?_)
  refine g_icmp_gt 19 F dX8_isClean_12 (by omega) (by omega) rfl (fun c_1 => ?_) (fun c_1 => ?_)
  · skip
    refine g_iconst F dX8_isClean_19 (0) (by decide) ?_
    exact g_zreturn F hR dX8_isClean_20 (by omega) (pB_i (by split <;> omega) rfl rfl)
  · skip
    refine g_iconst F dX8_isClean_15 (1) (by decide) ?_
    refine g_goto F 20 dX8_isClean_16 rfl ?_
    exact g_zreturn F hR dX8_isClean_20 (by omega) (pB_i (by split <;> omega) rfl rfl)

set_option maxRecDepth 20000 in
theorem c_X8_tellsBy (l : Launch) (D : gD) (ad : gA) (x : gX) (y : gY) (z : gX) (i k d h : Int) (hST : ST z y) (hN : NOK z) (hB : SB z y 0) (hi : 0 ≤ i ∧ i < z 10 0 0) (hk : 0 ≤ k ∧ k ≤ 5) (hd : 0 ≤ d ∧ d ≤ 9) (hh : 0 ≤ h ∧ h ≤ 100) : gC l D ad 3 yX8_tellsBy cX8_tellsBy 5 (some .int) [.ref (ad 8 (0)), .int (J (i)), .int (J (k)), .int (J (d)), .int (J (h))] x y (pI (vKH z i k d h) (x) (y)) := by
  refine g_met RX8 rfl (by decide +kernel) [(0, .ref (ad 8 (0))), (1, .int (J (i))), (2, .int (J (k))), (3, .int (J (d))), (4, .int (J (h)))] rfl (Nat.le_of_ble_eq_true rfl) (fun Θ F hR => ?_)
  have hm := hN.2.2.2 i hi.1 hi.2
  have h10 := hN.2.1
  have hbu := sBurn_r (k := k) (b := z 3 i 0) hN.1.1 hN.1.2.1.1 hd hh
  refine g_aload_n F dX8_tellsBy_0 rfl 0 rfl ?_
  refine g_iload_n F dX8_tellsBy_1 rfl 1 rfl ?_
  refine g_iload_n F dX8_tellsBy_2 rfl 2 rfl ?_
  refine g_iload F dX8_tellsBy_3 4 rfl ?_
  refine g_callV 3 F (As := [.int (J (i)), .int (J (k)), .int (J (h))]) (st := []) (c_X8_comesBy l D ad x y z (i) (k) (h) (hST) (hN) (by omega) (by omega) (by omega)) (gR_8) rfl mk_X8_176 ki_X8_comesBy kc_X8_comesBy (by decide +kernel) rfl (by decide) dX8_tellsBy_5 rfl (Nat.le_of_ble_eq_true rfl) (pB_k ?_)
  refine g_ifb_ne 15 F dX8_tellsBy_8 rfl (fun c_1 => ?_) (fun c_1 => ?_)
  · skip
    refine g_aload_n F dX8_tellsBy_15 rfl 0 rfl ?_
    refine g_iload_n F dX8_tellsBy_16 rfl 1 rfl ?_
    refine g_iload_n F dX8_tellsBy_17 rfl 2 rfl ?_
    refine g_iload_n F dX8_tellsBy_18 rfl 3 rfl ?_
    refine g_iload F dX8_tellsBy_19 4 rfl ?_
    refine g_callV 4 F (As := [.int (J (i)), .int (J (k)), .int (J (d)), .int (J (h))]) (st := []) (c_X8_burnsBy l D ad x y z (i) (k) (d) (h) (hST) (hN) (by omega) (by omega) (by omega) (by omega)) (gR_8) rfl mk_X8_172 ki_X8_burnsBy kc_X8_burnsBy (by decide +kernel) rfl (by decide) dX8_tellsBy_21 rfl (Nat.le_of_ble_eq_true rfl) (pI_k ?_)
    refine g_aload_n F dX8_tellsBy_24 rfl 0 rfl ?_
    refine g_iconst F dX8_tellsBy_25 (0) (by decide) ?_
    refine g_iload_n F dX8_tellsBy_26 rfl 1 rfl ?_
    refine g_callV 2 F (As := [.int (J (0)), .int (J (i))]) (st := [.int (J (sBurn (z 11 0 0) (z 12 0 0) (k) (z 3 (i) 0) (d) (h)))]) (c_X8_bearable l D ad x y z (0) (i) (hST) (hN) (hB) (by omega) (by omega)) (gR_8) rfl mk_X8_182 ki_X8_bearable kc_X8_bearable (by decide +kernel) rfl (by decide) dX8_tellsBy_27 rfl (Nat.le_of_ble_eq_true rfl) (pI_k ?_)
    refine g_icmp_gt 37 F dX8_tellsBy_30 (by omega) (by omega) rfl (fun c_2 => ?_) (fun c_2 => ?_)
    · skip
      refine g_iconst F dX8_tellsBy_37 (0) (by decide) ?_
      exact g_ireturn F hR dX8_tellsBy_38 (pI_i (by unfold vKH; (repeat' split) <;> first | omega | contradiction) rfl rfl)
    · skip
      refine g_iconst F dX8_tellsBy_33 (1) (by decide) ?_
      refine g_goto F 38 dX8_tellsBy_34 rfl ?_
      exact g_ireturn F hR dX8_tellsBy_38 (pI_i (by unfold vKH; (repeat' split) <;> first | omega | contradiction) rfl rfl)
  · skip
    refine g_iconst F dX8_tellsBy_11 (2) (by decide) ?_
    refine g_goto F 38 dX8_tellsBy_12 rfl ?_
    exact g_ireturn F hR dX8_tellsBy_38 (pI_i (by unfold vKH; (repeat' split) <;> first | omega | contradiction) rfl rfl)

set_option maxRecDepth 20000 in
theorem c_X8_tellsAt (l : Launch) (D : gD) (ad : gA) (x : gX) (y : gY) (z : gX) (b i h : Int) (hST : ST z y) (hN : NOK z) (hB : SB z y b) (hi : 0 ≤ i ∧ i < z 10 0 0) (hb : 0 ≤ b ∧ b ≤ 2628) (hh : 0 ≤ h ∧ h ≤ 100) : gC l D ad 5 yX8_tellsAt cX8_tellsAt 4 (some .int) [.ref (ad 8 (0)), .int (J (b)), .int (J (i)), .int (J (h))] x y (pI (vU z i h) (x) (y)) := by
  refine g_met RX8 rfl (by decide +kernel) [(0, .ref (ad 8 (0))), (1, .int (J (b))), (2, .int (J (i))), (3, .int (J (h)))] rfl (Nat.le_of_ble_eq_true rfl) (fun Θ F hR => ?_)
  have hm := hN.2.2.2 i hi.1 hi.2
  have h10 := hN.2.1
  refine g_aload_n F dX8_tellsAt_0 rfl 0 rfl ?_
  refine g_iload_n F dX8_tellsAt_1 rfl 2 rfl ?_
  refine g_iload_n F dX8_tellsAt_2 rfl 3 rfl ?_
  refine g_callV 2 F (As := [.int (J (i)), .int (J (h))]) (st := []) (c_X8_doesCome l D ad x y z (i) (h) (hST) (hN) (by omega) (by omega)) (gR_8) rfl mk_X8_185 ki_X8_doesCome kc_X8_doesCome (by decide +kernel) rfl (by decide) dX8_tellsAt_3 rfl (Nat.le_of_ble_eq_true rfl) (pB_k ?_)
  refine g_ifb_ne 13 F dX8_tellsAt_6 rfl (fun c_1 => ?_) (fun c_1 => ?_)
  · skip
    refine g_aload_n F dX8_tellsAt_13 rfl 0 rfl ?_
    refine g_iload_n F dX8_tellsAt_14 rfl 1 rfl ?_
    refine g_iload_n F dX8_tellsAt_15 rfl 2 rfl ?_
    refine g_iload_n F dX8_tellsAt_16 rfl 3 rfl ?_
    refine g_callV 3 F (As := [.int (J (b)), .int (J (i)), .int (J (h))]) (st := []) (c_X8_isClean l D ad x y z (b) (i) (h) (hST) (hN) (hB) (by omega) (by omega) (by omega)) (gR_8) rfl mk_X8_188 ki_X8_isClean kc_X8_isClean (by decide +kernel) rfl (by decide) dX8_tellsAt_17 rfl (Nat.le_of_ble_eq_true rfl) (pB_k ?_)
    refine g_ifb_eq 27 F dX8_tellsAt_20 rfl (fun c_2 => ?_) (fun c_2 => ?_)
    · skip
      refine g_iconst F dX8_tellsAt_27 (0) (by decide) ?_
      exact g_ireturn F hR dX8_tellsAt_28 (pI_i (by unfold vU; (repeat' split) <;> first | omega | contradiction) rfl rfl)
    · skip
      refine g_iconst F dX8_tellsAt_23 (1) (by decide) ?_
      refine g_goto F 28 dX8_tellsAt_24 rfl ?_
      exact g_ireturn F hR dX8_tellsAt_28 (pI_i (by unfold vU; (repeat' split) <;> first | omega | contradiction) rfl rfl)
  · skip
    refine g_iconst F dX8_tellsAt_9 (2) (by decide) ?_
    refine g_goto F 28 dX8_tellsAt_10 rfl ?_
    exact g_ireturn F hR dX8_tellsAt_28 (pI_i (by unfold vU; (repeat' split) <;> first | omega | contradiction) rfl rfl)

set_option maxRecDepth 20000 in
theorem c_X8_isWrong (l : Launch) (D : gD) (ad : gA) (x : gX) (y : gY) (z : gX) (i t : Int) (hST : ST z y) (hN : NOK z) (hi : 0 ≤ i ∧ i < z 10 0 0) (ht : -9 ≤ t ∧ t ≤ 2) : gC l D ad 0 yX8_isWrong cX8_isWrong 3 (some .boolean) [.ref (ad 8 (0)), .int (J (i)), .int (J (t))] x y (pB (sWr (z 2 i 0) t) (x) (y)) := by
  refine g_met RX8 rfl (by decide +kernel) [(0, .ref (ad 8 (0))), (1, .int (J (i))), (2, .int (J (t)))] rfl (Nat.le_of_ble_eq_true rfl) (fun Θ F hR => ?_)
  have hm := hN.2.2.2 i hi.1 hi.2
  have h10 := hN.2.1
  refine g_aload_n F dX8_isWrong_0 rfl 0 rfl ?_
  refine gg_Model_guilts F fk_X8_16 dX8_isWrong_1 ?_
  refine g_iload_n F dX8_isWrong_4 rfl 1 rfl ?_
  refine ga_42 F (by omega) dX8_isWrong_5 ?_
  refine g_topi (b := z 2 (i) 0) ((hST.2.2.2.2.2 _ (by omega) (by omega)).2.1) ?_
  refine g_iconst F dX8_isWrong_6 (1) (by decide) ?_
  refine g_icmp_ne 23 F dX8_isWrong_7 (by omega) (by decide) rfl (fun c_1 => ?_) (fun c_1 => ?_)
  · skip
    refine g_iload_n F dX8_isWrong_23 rfl 2 rfl ?_
    refine g_iconst F dX8_isWrong_24 (1) (by decide) ?_
    refine g_icmp_eq 32 F dX8_isWrong_25 (by omega) (by decide) rfl (fun c_2 => ?_) (fun c_2 => ?_)
    · skip
      refine g_iconst F dX8_isWrong_32 (0) (by decide) ?_
      exact g_zreturn F hR dX8_isWrong_33 (by omega) (pB_i (by split <;> omega) rfl rfl)
    · skip
      refine g_iconst F dX8_isWrong_28 (1) (by decide) ?_
      refine g_goto F 33 dX8_isWrong_29 rfl ?_
      exact g_zreturn F hR dX8_isWrong_33 (by omega) (pB_i (by split <;> omega) rfl rfl)
  · skip
    refine g_iload_n F dX8_isWrong_10 rfl 2 rfl ?_
    refine g_iconst F dX8_isWrong_11 (1) (by decide) ?_
    refine g_icmp_ne 19 F dX8_isWrong_12 (by omega) (by decide) rfl (fun c_3 => ?_) (fun c_3 => ?_)
    · skip
      refine g_iconst F dX8_isWrong_19 (0) (by decide) ?_
      refine g_goto F 33 dX8_isWrong_20 rfl ?_
      exact g_zreturn F hR dX8_isWrong_33 (by omega) (pB_i (by split <;> omega) rfl rfl)
    · skip
      refine g_iconst F dX8_isWrong_15 (1) (by decide) ?_
      refine g_goto F 33 dX8_isWrong_16 rfl ?_
      exact g_zreturn F hR dX8_isWrong_33 (by omega) (pB_i (by split <;> omega) rfl rfl)

set_option maxRecDepth 20000 in
theorem c_X8_toldOf (l : Launch) (D : gD) (ad : gA) (x : gX) (y : gY) (z : gX) (i w : Int) (hST : ST z y) (hN : NOK z) (hB : SB z y 0) (hi : 0 ≤ i ∧ i < z 10 0 0) (hw : 0 ≤ w ∧ w ≤ 8) : gC l D ad 5 yX8_toldOf cX8_toldOf 3 (some .int) [.ref (ad 8 (0)), .int (J (i)), .int (J (w))] x y (pI (dU z i w) (x) (y)) := by
  refine g_met RX8 rfl (by decide +kernel) [(0, .ref (ad 8 (0))), (1, .int (J (i))), (2, .int (J (w)))] rfl (Nat.le_of_ble_eq_true rfl) (fun Θ F hR => ?_)
  have hm := hN.2.2.2 i hi.1 hi.2
  have h10 := hN.2.1
  refine g_iload_n F dX8_toldOf_0 rfl 2 rfl ?_
  have rs_1 : i32 (w) := (by omega)
  rcases (show w = 0 ∨ w = 1 ∨ w = 2 ∨ w = 3 ∨ w = 4 ∨ w = 5 ∨ w = 6 ∨ w = 7 ∨ (w ≠ 0 ∧ w ≠ 1 ∧ w ≠ 2 ∧ w ≠ 3 ∧ w ≠ 4 ∧ w ≠ 5 ∧ w ≠ 6 ∧ w ≠ 7) by omega) with s_1 | s_1 | s_1 | s_1 | s_1 | s_1 | s_1 | s_1 | s_1
  · skip
    refine g_switch F 48 dX8_toldOf_1 rs_1 (by omega) (by omega) (by rw [s_1]; rfl) rfl ?_
    refine g_aload_n F dX8_toldOf_48 rfl 0 rfl ?_
    refine gg_Model_kinds F fk_X8_13 dX8_toldOf_49 ?_
    refine g_iload_n F dX8_toldOf_52 rfl 1 rfl ?_
    refine ga_41 F (by omega) dX8_toldOf_53 ?_
    refine g_topi (b := z 1 (i) 0) ((hST.2.2.2.2.2 _ (by omega) (by omega)).1) ?_
    exact g_ireturn F hR dX8_toldOf_54 (pI_i (by unfold dU; (repeat' split) <;> first | rfl | omega | contradiction) rfl rfl)
  · skip
    refine g_switch F 55 dX8_toldOf_1 rs_1 (by omega) (by omega) (by rw [s_1]; rfl) rfl ?_
    refine g_aload_n F dX8_toldOf_55 rfl 0 rfl ?_
    refine gg_Model_guilts F fk_X8_16 dX8_toldOf_56 ?_
    refine g_iload_n F dX8_toldOf_59 rfl 1 rfl ?_
    refine ga_42 F (by omega) dX8_toldOf_60 ?_
    refine g_topi (b := z 2 (i) 0) ((hST.2.2.2.2.2 _ (by omega) (by omega)).2.1) ?_
    exact g_ireturn F hR dX8_toldOf_61 (pI_i (by unfold dU; (repeat' split) <;> first | rfl | omega | contradiction) rfl rfl)
  · skip
    refine g_switch F 62 dX8_toldOf_1 rs_1 (by omega) (by omega) (by rw [s_1]; rfl) rfl ?_
    refine g_aload_n F dX8_toldOf_62 rfl 0 rfl ?_
    refine gg_Model_beliefs F fk_X8_19 dX8_toldOf_63 ?_
    refine g_iload_n F dX8_toldOf_66 rfl 1 rfl ?_
    refine ga_43 F (by omega) dX8_toldOf_67 ?_
    refine g_topi (b := z 3 (i) 0) ((hST.2.2.2.2.2 _ (by omega) (by omega)).2.2.1) ?_
    exact g_ireturn F hR dX8_toldOf_68 (pI_i (by unfold dU; (repeat' split) <;> first | rfl | omega | contradiction) rfl rfl)
  · skip
    refine g_switch F 69 dX8_toldOf_1 rs_1 (by omega) (by omega) (by rw [s_1]; rfl) rfl ?_
    refine g_aload_n F dX8_toldOf_69 rfl 0 rfl ?_
    refine gg_Model_kinds F fk_X8_13 dX8_toldOf_70 ?_
    refine g_iload_n F dX8_toldOf_73 rfl 1 rfl ?_
    refine ga_41 F (by omega) dX8_toldOf_74 ?_
    refine g_topi (b := z 1 (i) 0) ((hST.2.2.2.2.2 _ (by omega) (by omega)).1) ?_
    refine g_aload_n F dX8_toldOf_75 rfl 0 rfl ?_
    refine gg_Model_hands F fk_X8_22 dX8_toldOf_76 ?_
    refine g_iload_n F dX8_toldOf_79 rfl 1 rfl ?_
    refine ga_44 F (by omega) dX8_toldOf_80 ?_
    refine g_topi (b := z 4 (i) 0) ((hST.2.2.2.2.2 _ (by omega) (by omega)).2.2.2) ?_
    refine g_callS 2 F (As := [.int (J (z 1 (i) 0)), .int (J (z 4 (i) 0))]) (st := []) (c_X8_hardBy l D ad x y (z 1 (i) 0) (z 4 (i) 0) (by omega) (by omega)) rfl mk_X8_169 ki_X8_hardBy kc_X8_hardBy (by decide +kernel) rfl (by decide) dX8_toldOf_81 rfl (Nat.le_of_ble_eq_true rfl) (pI_k ?_)
    exact g_ireturn F hR dX8_toldOf_84 (pI_i (by unfold dU; (repeat' split) <;> first | rfl | omega | contradiction) rfl rfl)
  · skip
    refine g_switch F 85 dX8_toldOf_1 rs_1 (by omega) (by omega) (by rw [s_1]; rfl) rfl ?_
    refine g_aload_n F dX8_toldOf_85 rfl 0 rfl ?_
    refine g_iload_n F dX8_toldOf_86 rfl 1 rfl ?_
    refine g_aload_n F dX8_toldOf_87 rfl 0 rfl ?_
    refine gg_Model_row F fk_X8_7 dX8_toldOf_88 ?_
    refine g_iconst F dX8_toldOf_91 (1) (by decide) ?_
    refine ga_40 F (by decide) dX8_toldOf_92 ?_
    refine g_topi (b := z 15 0 0) (SB_00 hB) ?_
    refine g_callV 2 F (As := [.int (J (i)), .int (J (z 15 0 0))]) (st := []) (c_X8_burns l D ad x y z (i) (z 15 0 0) (hST) (hN) (by omega) (by omega)) (gR_8) rfl mk_X8_179 ki_X8_burns kc_X8_burns (by decide +kernel) rfl (by decide) dX8_toldOf_93 rfl (Nat.le_of_ble_eq_true rfl) (pI_k ?_)
    exact g_ireturn F hR dX8_toldOf_96 (pI_i (by unfold dU; (repeat' split) <;> first | rfl | omega | contradiction) rfl rfl)
  · skip
    refine g_switch F 97 dX8_toldOf_1 rs_1 (by omega) (by omega) (by rw [s_1]; rfl) rfl ?_
    refine g_aload_n F dX8_toldOf_97 rfl 0 rfl ?_
    refine g_iload_n F dX8_toldOf_98 rfl 1 rfl ?_
    refine g_aload_n F dX8_toldOf_99 rfl 0 rfl ?_
    refine gg_Model_row F fk_X8_7 dX8_toldOf_100 ?_
    refine g_iconst F dX8_toldOf_103 (1) (by decide) ?_
    refine ga_40 F (by decide) dX8_toldOf_104 ?_
    refine g_topi (b := z 15 0 0) (SB_00 hB) ?_
    refine g_callV 2 F (As := [.int (J (i)), .int (J (z 15 0 0))]) (st := []) (c_X8_doesCome l D ad x y z (i) (z 15 0 0) (hST) (hN) (by omega) (by omega)) (gR_8) rfl mk_X8_185 ki_X8_doesCome kc_X8_doesCome (by decide +kernel) rfl (by decide) dX8_toldOf_105 rfl (Nat.le_of_ble_eq_true rfl) (pB_k ?_)
    refine g_ifb_eq 115 F dX8_toldOf_108 rfl (fun c_2 => ?_) (fun c_2 => ?_)
    · skip
      refine g_iconst F dX8_toldOf_115 (0) (by decide) ?_
      exact g_ireturn F hR dX8_toldOf_116 (pI_i (by unfold dU; (repeat' split) <;> first | rfl | omega | contradiction) rfl rfl)
    · skip
      refine g_iconst F dX8_toldOf_111 (1) (by decide) ?_
      refine g_goto F 116 dX8_toldOf_112 rfl ?_
      exact g_ireturn F hR dX8_toldOf_116 (pI_i (by unfold dU; (repeat' split) <;> first | rfl | omega | contradiction) rfl rfl)
  · skip
    refine g_switch F 117 dX8_toldOf_1 rs_1 (by omega) (by omega) (by rw [s_1]; rfl) rfl ?_
    refine g_aload_n F dX8_toldOf_117 rfl 0 rfl ?_
    refine g_iconst F dX8_toldOf_118 (0) (by decide) ?_
    refine g_iload_n F dX8_toldOf_119 rfl 1 rfl ?_
    refine g_aload_n F dX8_toldOf_120 rfl 0 rfl ?_
    refine gg_Model_row F fk_X8_7 dX8_toldOf_121 ?_
    refine g_iconst F dX8_toldOf_124 (1) (by decide) ?_
    refine ga_40 F (by decide) dX8_toldOf_125 ?_
    refine g_topi (b := z 15 0 0) (SB_00 hB) ?_
    refine g_callV 3 F (As := [.int (J (0)), .int (J (i)), .int (J (z 15 0 0))]) (st := []) (c_X8_isClean l D ad x y z (0) (i) (z 15 0 0) (hST) (hN) (hB) (by omega) (by omega) (by omega)) (gR_8) rfl mk_X8_188 ki_X8_isClean kc_X8_isClean (by decide +kernel) rfl (by decide) dX8_toldOf_126 rfl (Nat.le_of_ble_eq_true rfl) (pB_k ?_)
    refine g_ifb_eq 136 F dX8_toldOf_129 rfl (fun c_3 => ?_) (fun c_3 => ?_)
    · skip
      refine g_iconst F dX8_toldOf_136 (0) (by decide) ?_
      exact g_ireturn F hR dX8_toldOf_137 (pI_i (by unfold dU; (repeat' split) <;> first | rfl | omega | contradiction) rfl rfl)
    · skip
      refine g_iconst F dX8_toldOf_132 (1) (by decide) ?_
      refine g_goto F 137 dX8_toldOf_133 rfl ?_
      exact g_ireturn F hR dX8_toldOf_137 (pI_i (by unfold dU; (repeat' split) <;> first | rfl | omega | contradiction) rfl rfl)
  · skip
    refine g_switch F 138 dX8_toldOf_1 rs_1 (by omega) (by omega) (by rw [s_1]; rfl) rfl ?_
    refine g_aload_n F dX8_toldOf_138 rfl 0 rfl ?_
    refine gg_Model_row F fk_X8_7 dX8_toldOf_139 ?_
    refine g_iconst F dX8_toldOf_142 (5) (by decide) ?_
    refine g_iload_n F dX8_toldOf_143 rfl 1 rfl ?_
    refine g_iadd F dX8_toldOf_144 ?_
    refine ga_40 F (by omega) dX8_toldOf_145 ?_
    refine g_topi (b := z 5 (i) 0) (SB_05 hB hN.2.1.2 (by omega) (by omega)) ?_
    exact g_ireturn F hR dX8_toldOf_146 (pI_i (by unfold dU; (repeat' split) <;> first | rfl | omega | contradiction) rfl rfl)
  · skip
    refine g_switchD F 147 dX8_toldOf_1 rs_1 (by omega) rfl ?_
    refine g_aload_n F dX8_toldOf_147 rfl 0 rfl ?_
    refine gg_Model_row F fk_X8_7 dX8_toldOf_148 ?_
    refine g_bipush F dX8_toldOf_151 (11) (by decide) ?_
    refine g_iload_n F dX8_toldOf_153 rfl 1 rfl ?_
    refine g_iadd F dX8_toldOf_154 ?_
    refine ga_40 F (by omega) dX8_toldOf_155 ?_
    refine g_topi (b := z 6 (i) 0) (SB_011 hB hN.2.1.2 (by omega) (by omega)) ?_
    exact g_ireturn F hR dX8_toldOf_156 (pI_i (by unfold dU; (repeat' split) <;> first | rfl | omega | contradiction) rfl rfl)

set_option maxRecDepth 20000 in
theorem c_X8_isMan (l : Launch) (D : gD) (ad : gA) (x : gX) (y : gY) (z : gX) (i : Int) (hST : ST z y) (hN : NOK z) (hi : i32 i) : gC l D ad 1 yX8_isMan cX8_isMan 2 (some .boolean) [.ref (ad 8 (0)), .int (J (i))] x y (pB (mnN z i) (x) (y)) := by
  refine g_met RX8 rfl (by decide +kernel) [(0, .ref (ad 8 (0))), (1, .int (J (i)))] rfl (Nat.le_of_ble_eq_true rfl) (fun Θ F hR => ?_)
  have h10 := hN.2.1
  refine g_iload_n F dX8_isMan_0 rfl 1 rfl ?_
  refine g_i2l F dX8_isMan_1 (by omega) ?_
  refine g_lconst F dX8_isMan_2 0 (by decide) ?_
  refine g_aload_n F dX8_isMan_3 rfl 0 rfl ?_
  refine gg_Model_men F fk_X8_157 dX8_isMan_4 ?_
  refine g_topi (b := z 10 0 0) (hST.2.2.2.2.1) ?_
  refine g_iconst F dX8_isMan_7 (1) (by decide) ?_
  refine g_isub F dX8_isMan_8 ?_
  refine g_i2l F dX8_isMan_9 (by omega) ?_
  refine g_callS 3 F (As := [.long (Lg (i)), .long (Lg (0)), .long (Lg ((z 10 0 0) - (1)))]) (st := []) (c_X8_in l D ad x y (i) (0) ((z 10 0 0) - (1)) (by omega) (by omega) (by omega)) rfl mk_X8_74 ki_X8_in kc_X8_in (by decide +kernel) rfl (by decide) dX8_isMan_10 rfl (Nat.le_of_ble_eq_true rfl) (pB_k ?_)
  exact g_zreturn F hR dX8_isMan_13 (by split <;> simp) (pB_i (by split <;> split <;> omega) rfl rfl)

set_option maxRecDepth 20000 in
theorem c_X8_isOf (l : Launch) (D : gD) (ad : gA) (x : gX) (y : gY) (z : gX) (i k : Int) (hST : ST z y) (hN : NOK z) (hi : 0 ≤ i ∧ i < z 10 0 0) (hk : 1 ≤ k ∧ k ≤ 5) : gC l D ad 0 yX8_isOf cX8_isOf 4 (some .boolean) [.ref (ad 8 (0)), .int (J (i)), .int (J (k))] x y (pB (sOf1 (z 1 i 0) k) (x) (y)) := by
  refine g_met RX8 rfl (by decide +kernel) [(0, .ref (ad 8 (0))), (1, .int (J (i))), (2, .int (J (k)))] rfl (Nat.le_of_ble_eq_true rfl) (fun Θ F hR => ?_)
  have hm := hN.2.2.2 i hi.1 hi.2
  have h10 := hN.2.1
  refine g_aload_n F dX8_isOf_0 rfl 0 rfl ?_
  refine gg_Model_kinds F fk_X8_13 dX8_isOf_1 ?_
  refine g_iload_n F dX8_isOf_4 rfl 1 rfl ?_
  refine ga_41 F (by omega) dX8_isOf_5 ?_
  refine g_topi (b := z 1 (i) 0) ((hST.2.2.2.2.2 _ (by omega) (by omega)).1) ?_
  refine g_istore_n F [(3, .int (J (z 1 (i) 0))), (0, .ref (ad 8 (0))), (1, .int (J (i))), (2, .int (J (k)))] dX8_isOf_6 rfl (by decide) rfl ?_
  refine g_iload_n F dX8_isOf_7 rfl 0 rfl ?_
  refine g_iload_n F dX8_isOf_8 rfl 3 rfl ?_
  refine g_icmp_eq 32 F dX8_isOf_9 (by omega) (by omega) rfl (fun c_1 => ?_) (fun c_1 => ?_)
  · skip
    refine g_iconst F dX8_isOf_32 (1) (by decide) ?_
    refine g_goto F 37 dX8_isOf_33 rfl ?_
    exact g_zreturn F hR dX8_isOf_37 (by omega) (pB_i (by split <;> omega) rfl rfl)
  · skip
    refine g_iload_n F dX8_isOf_12 rfl 3 rfl ?_
    refine g_iconst F dX8_isOf_13 (1) (by decide) ?_
    refine g_icmp_ne 22 F dX8_isOf_14 (by omega) (by decide) rfl (fun c_2 => ?_) (fun c_2 => ?_)
    · skip
      refine g_iload_n F dX8_isOf_22 rfl 3 rfl ?_
      refine g_iconst F dX8_isOf_23 (2) (by decide) ?_
      refine g_icmp_ne 36 F dX8_isOf_24 (by omega) (by decide) rfl (fun c_3 => ?_) (fun c_3 => ?_)
      · skip
        refine g_iconst F dX8_isOf_36 (0) (by decide) ?_
        exact g_zreturn F hR dX8_isOf_37 (by omega) (pB_i (by split <;> omega) rfl rfl)
      · skip
        refine g_iload_n F dX8_isOf_27 rfl 0 rfl ?_
        refine g_iconst F dX8_isOf_28 (5) (by decide) ?_
        refine g_icmp_ne 36 F dX8_isOf_29 (by omega) (by decide) rfl (fun c_4 => ?_) (fun c_4 => ?_)
        · skip
          refine g_iconst F dX8_isOf_36 (0) (by decide) ?_
          exact g_zreturn F hR dX8_isOf_37 (by omega) (pB_i (by split <;> omega) rfl rfl)
        · skip
          refine g_iconst F dX8_isOf_32 (1) (by decide) ?_
          refine g_goto F 37 dX8_isOf_33 rfl ?_
          exact g_zreturn F hR dX8_isOf_37 (by omega) (pB_i (by split <;> omega) rfl rfl)
    · skip
      refine g_iload_n F dX8_isOf_17 rfl 0 rfl ?_
      refine g_iconst F dX8_isOf_18 (4) (by decide) ?_
      refine g_icmp_eq 32 F dX8_isOf_19 (by omega) (by decide) rfl (fun c_5 => ?_) (fun c_5 => ?_)
      · skip
        refine g_iconst F dX8_isOf_32 (1) (by decide) ?_
        refine g_goto F 37 dX8_isOf_33 rfl ?_
        exact g_zreturn F hR dX8_isOf_37 (by omega) (pB_i (by split <;> omega) rfl rfl)
      · skip
        refine g_iload_n F dX8_isOf_22 rfl 3 rfl ?_
        refine g_iconst F dX8_isOf_23 (2) (by decide) ?_
        refine g_icmp_ne 36 F dX8_isOf_24 (by omega) (by decide) rfl (fun c_6 => ?_) (fun c_6 => ?_)
        · skip
          refine g_iconst F dX8_isOf_36 (0) (by decide) ?_
          exact g_zreturn F hR dX8_isOf_37 (by omega) (pB_i (by split <;> omega) rfl rfl)
        · skip
          refine g_iload_n F dX8_isOf_27 rfl 0 rfl ?_
          refine g_iconst F dX8_isOf_28 (5) (by decide) ?_
          refine g_icmp_ne 36 F dX8_isOf_29 (by omega) (by decide) rfl (fun c_7 => ?_) (fun c_7 => ?_)
          · skip
            refine g_iconst F dX8_isOf_36 (0) (by decide) ?_
            exact g_zreturn F hR dX8_isOf_37 (by omega) (pB_i (by split <;> omega) rfl rfl)
          · skip
            refine g_iconst F dX8_isOf_32 (1) (by decide) ?_
            refine g_goto F 37 dX8_isOf_33 rfl ?_
            exact g_zreturn F hR dX8_isOf_37 (by omega) (pB_i (by split <;> omega) rfl rfl)

set_option maxRecDepth 20000 in
theorem c_X8_moreHeat (l : Launch) (D : gD) (ad : gA) (x : gX) (y : gY) (z : gX) (i : Int) (hST : ST z y) (hN : NOK z) (hB : SB z y 0) (hi : 0 ≤ i ∧ i < z 10 0 0) : gC l D ad 5 yX8_moreHeat cX8_moreHeat 3 (some .int) [.ref (ad 8 (0)), .int (J (i))] x y (pI (sprU z i) (x) (y)) := by
  refine g_met RX8 rfl (by decide +kernel) [(0, .ref (ad 8 (0))), (1, .int (J (i)))] rfl (Nat.le_of_ble_eq_true rfl) (fun Θ F hR => ?_)
  have hm := hN.2.2.2 i hi.1 hi.2
  have h10 := hN.2.1
  refine g_aload_n F dX8_moreHeat_0 rfl 0 rfl ?_
  refine gg_Model_row F fk_X8_7 dX8_moreHeat_1 ?_
  refine g_iconst F dX8_moreHeat_4 (1) (by decide) ?_
  refine ga_40 F (by decide) dX8_moreHeat_5 ?_
  refine g_topi (b := z 15 0 0) (SB_00 hB) ?_
  refine g_istore_n F [(2, .int (J (z 15 0 0))), (0, .ref (ad 8 (0))), (1, .int (J (i)))] dX8_moreHeat_6 rfl (by decide) rfl ?_
  have L7 : ∀ (N : Nat) (a : Int), z 15 0 0 ≤ a ∧ a ≤ 30 → a - z 15 0 0 + spN (fun h => lU z i h ≤ 0) (30 - a).toNat a = sprU z i → (30 - a).toNat < N → gW Θ l D ad 3 7 [(0, .ref (ad 8 (0))), (1, .int (J (i))), (2, .int (J (a)))] [] x y := by
    intro N
    induction N with
    | zero => intro a hj ha hFu; omega
    | succ N ih7 =>
      intro a hj ha hFu
      refine g_iload_n F dX8_moreHeat_7 rfl 2 rfl ?_
      refine g_bipush F dX8_moreHeat_8 (30) (by decide) ?_
      refine g_icmp_ge 31 F dX8_moreHeat_10 (by omega) (by decide) rfl (fun c_1 => ?_) (fun c_1 => ?_)
      · skip
        refine g_aload_n F dX8_moreHeat_31 rfl 0 rfl ?_
        refine g_iconst F dX8_moreHeat_32 (0) (by decide) ?_
        refine g_iload_n F dX8_moreHeat_33 rfl 1 rfl ?_
        refine g_aload_n F dX8_moreHeat_34 rfl 0 rfl ?_
        refine gg_Model_row F fk_X8_7 dX8_moreHeat_35 ?_
        refine g_iconst F dX8_moreHeat_38 (1) (by decide) ?_
        refine ga_40 F (by decide) dX8_moreHeat_39 ?_
        refine g_topi (b := z 15 0 0) (SB_00 hB) ?_
        refine g_callV 3 F (As := [.int (J (0)), .int (J (i)), .int (J (z 15 0 0))]) (st := []) (c_X8_isClean l D ad x y z (0) (i) (z 15 0 0) (hST) (hN) (hB) (by omega) (by omega) (by omega)) (gR_8) rfl mk_X8_188 ki_X8_isClean kc_X8_isClean (by decide +kernel) rfl (by decide) dX8_moreHeat_40 rfl (Nat.le_of_ble_eq_true rfl) (pB_k ?_)
        refine g_ifb_eq 57 F dX8_moreHeat_43 rfl (fun c_2 => ?_) (fun c_2 => ?_)
        · skip
          refine g_iconst F dX8_moreHeat_57 (0) (by decide) ?_
          exact g_ireturn F hR dX8_moreHeat_58 (pI_i (by first | exact (sprU_no hN.1 hN.2.2.1.1 (by omega)).symm | (rw [← ha, show (30 - a).toNat = 0 by omega]; show _ = a - z 15 0 0 + 0; omega) | (rw [← ha, show (30 - a).toNat = (30 - (a + 1)).toNat + 1 by omega]; show _ = a - z 15 0 0 + (if lU z i (a + 1) ≤ 0 then _ else 0); rw [if_neg (by omega)]; omega)) rfl rfl)
        · skip
          refine g_iload_n F dX8_moreHeat_46 rfl 2 rfl ?_
          refine g_aload_n F dX8_moreHeat_47 rfl 0 rfl ?_
          refine gg_Model_row F fk_X8_7 dX8_moreHeat_48 ?_
          refine g_iconst F dX8_moreHeat_51 (1) (by decide) ?_
          refine ga_40 F (by decide) dX8_moreHeat_52 ?_
          refine g_topi (b := z 15 0 0) (SB_00 hB) ?_
          refine g_isub F dX8_moreHeat_53 ?_
          refine g_goto F 58 dX8_moreHeat_54 rfl ?_
          exact g_ireturn F hR dX8_moreHeat_58 (pI_i (by first | exact (sprU_no hN.1 hN.2.2.1.1 (by omega)).symm | (rw [← ha, show (30 - a).toNat = 0 by omega]; show _ = a - z 15 0 0 + 0; omega) | (rw [← ha, show (30 - a).toNat = (30 - (a + 1)).toNat + 1 by omega]; show _ = a - z 15 0 0 + (if lU z i (a + 1) ≤ 0 then _ else 0); rw [if_neg (by omega)]; omega)) rfl rfl)
      · skip
        refine g_aload_n F dX8_moreHeat_13 rfl 0 rfl ?_
        refine g_iconst F dX8_moreHeat_14 (0) (by decide) ?_
        refine g_iload_n F dX8_moreHeat_15 rfl 1 rfl ?_
        refine g_iload_n F dX8_moreHeat_16 rfl 2 rfl ?_
        refine g_iconst F dX8_moreHeat_17 (1) (by decide) ?_
        refine g_iadd F dX8_moreHeat_18 ?_
        refine g_callV 3 F (As := [.int (J (0)), .int (J (i)), .int (J ((a) + (1)))]) (st := []) (c_X8_isClean l D ad x y z (0) (i) ((a) + (1)) (hST) (hN) (hB) (by omega) (by omega) (by omega)) (gR_8) rfl mk_X8_188 ki_X8_isClean kc_X8_isClean (by decide +kernel) rfl (by decide) dX8_moreHeat_19 rfl (Nat.le_of_ble_eq_true rfl) (pB_k ?_)
        refine g_ifb_eq 31 F dX8_moreHeat_22 rfl (fun c_3 => ?_) (fun c_3 => ?_)
        · skip
          refine g_aload_n F dX8_moreHeat_31 rfl 0 rfl ?_
          refine g_iconst F dX8_moreHeat_32 (0) (by decide) ?_
          refine g_iload_n F dX8_moreHeat_33 rfl 1 rfl ?_
          refine g_aload_n F dX8_moreHeat_34 rfl 0 rfl ?_
          refine gg_Model_row F fk_X8_7 dX8_moreHeat_35 ?_
          refine g_iconst F dX8_moreHeat_38 (1) (by decide) ?_
          refine ga_40 F (by decide) dX8_moreHeat_39 ?_
          refine g_topi (b := z 15 0 0) (SB_00 hB) ?_
          refine g_callV 3 F (As := [.int (J (0)), .int (J (i)), .int (J (z 15 0 0))]) (st := []) (c_X8_isClean l D ad x y z (0) (i) (z 15 0 0) (hST) (hN) (hB) (by omega) (by omega) (by omega)) (gR_8) rfl mk_X8_188 ki_X8_isClean kc_X8_isClean (by decide +kernel) rfl (by decide) dX8_moreHeat_40 rfl (Nat.le_of_ble_eq_true rfl) (pB_k ?_)
          refine g_ifb_eq 57 F dX8_moreHeat_43 rfl (fun c_4 => ?_) (fun c_4 => ?_)
          · skip
            refine g_iconst F dX8_moreHeat_57 (0) (by decide) ?_
            exact g_ireturn F hR dX8_moreHeat_58 (pI_i (by first | exact (sprU_no hN.1 hN.2.2.1.1 (by omega)).symm | (rw [← ha, show (30 - a).toNat = 0 by omega]; show _ = a - z 15 0 0 + 0; omega) | (rw [← ha, show (30 - a).toNat = (30 - (a + 1)).toNat + 1 by omega]; show _ = a - z 15 0 0 + (if lU z i (a + 1) ≤ 0 then _ else 0); rw [if_neg (by omega)]; omega)) rfl rfl)
          · skip
            refine g_iload_n F dX8_moreHeat_46 rfl 2 rfl ?_
            refine g_aload_n F dX8_moreHeat_47 rfl 0 rfl ?_
            refine gg_Model_row F fk_X8_7 dX8_moreHeat_48 ?_
            refine g_iconst F dX8_moreHeat_51 (1) (by decide) ?_
            refine ga_40 F (by decide) dX8_moreHeat_52 ?_
            refine g_topi (b := z 15 0 0) (SB_00 hB) ?_
            refine g_isub F dX8_moreHeat_53 ?_
            refine g_goto F 58 dX8_moreHeat_54 rfl ?_
            exact g_ireturn F hR dX8_moreHeat_58 (pI_i (by first | exact (sprU_no hN.1 hN.2.2.1.1 (by omega)).symm | (rw [← ha, show (30 - a).toNat = 0 by omega]; show _ = a - z 15 0 0 + 0; omega) | (rw [← ha, show (30 - a).toNat = (30 - (a + 1)).toNat + 1 by omega]; show _ = a - z 15 0 0 + (if lU z i (a + 1) ≤ 0 then _ else 0); rw [if_neg (by omega)]; omega)) rfl rfl)
        · skip
          refine g_iinc F [(2, .int (J (a + 1))), (0, .ref (ad 8 (0))), (1, .int (J (i)))] 2 rfl dX8_moreHeat_25 (by decide) rfl ?_
          refine g_goto F 7 dX8_moreHeat_28 rfl ?_
          refine g_sub [1, 2, 0] (lv' := [(0, .ref (ad 8 (0))), (1, .int (J (i))), (2, .int (J (a + 1)))]) rfl ?_
          exact ih7 (a + 1) (by omega) (by rw [← ha, show (30 - a).toNat = (30 - (a + 1)).toNat + 1 by omega]; show _ = a - z 15 0 0 + (if lU z i (a + 1) ≤ 0 then 1 + spN (fun h => lU z i h ≤ 0) (30 - (a + 1)).toNat (a + 1) else 0); rw [if_pos (by omega)]; omega) (by omega)
  refine g_sub [1, 2, 0] (lv' := [(0, .ref (ad 8 (0))), (1, .int (J (i))), (2, .int (J (z 15 0 0)))]) rfl ?_
  exact L7 _ (z 15 0 0) (by omega) (by unfold sprU; rw [Int.sub_self, Int.zero_add]) (Nat.lt_succ_self _)

set_option maxRecDepth 20000 in
theorem c_X8_awayBut (l : Launch) (D : gD) (ad : gA) (x : gX) (y : gY) (z : gX) (i : Int) (hST : ST z y) (hN : NOK z) (hB : SB z y 0) (hi : 0 ≤ i ∧ i < z 10 0 0) : gC l D ad 3 yX8_awayBut cX8_awayBut 4 (some .int) [.ref (ad 8 (0)), .int (J (i))] x y (pI (awB z i) (x) (y)) := by
  refine g_met RX8 rfl (by decide +kernel) [(0, .ref (ad 8 (0))), (1, .int (J (i)))] rfl (Nat.le_of_ble_eq_true rfl) (fun Θ F hR => ?_)
  have hm := hN.2.2.2 i hi.1 hi.2
  have h10 := hN.2.1
  refine g_iconst F dX8_awayBut_0 (0) (by decide) ?_
  refine g_istore_n F [(2, .int (J (0))), (0, .ref (ad 8 (0))), (1, .int (J (i)))] dX8_awayBut_1 rfl (by decide) rfl ?_
  refine g_iconst F dX8_awayBut_2 (0) (by decide) ?_
  refine g_istore_n F [(3, .int (J (0))), (2, .int (J (0))), (0, .ref (ad 8 (0))), (1, .int (J (i)))] dX8_awayBut_3 rfl (by decide) rfl ?_
  have L4 : ∀ (N : Nat) (a : Int) (j : Int), 0 ≤ j ∧ j ≤ z 10 0 0 → a = sumZ (fun k => if k ≠ i ∧ ¬ cU z k (z 15 0 0) then 1 else 0) j → (z 10 0 0 - j).toNat < N → gW Θ l D ad 4 4 [(0, .ref (ad 8 (0))), (1, .int (J (i))), (2, .int (J (a))), (3, .int (J (j)))] [] x y := by
    intro N
    induction N with
    | zero => intro a j hj ha hFu; omega
    | succ N ih4 =>
      intro a j hj ha hFu
      refine g_iload_n F dX8_awayBut_4 rfl 3 rfl ?_
      refine g_aload_n F dX8_awayBut_5 rfl 0 rfl ?_
      refine gg_Model_men F fk_X8_157 dX8_awayBut_6 ?_
      refine g_topi (b := z 10 0 0) (hST.2.2.2.2.1) ?_
      refine g_icmp_ge 45 F dX8_awayBut_9 (by omega) (by omega) rfl (fun c_1 => ?_) (fun c_1 => ?_)
      · skip
        refine g_iload_n F dX8_awayBut_45 rfl 2 rfl ?_
        exact g_ireturn F hR dX8_awayBut_46 (pI_i (by exact ha.trans (by rw [show j = z 10 0 0 by omega])) rfl rfl)
      · skip
        refine g_iload_n F dX8_awayBut_12 rfl 2 rfl ?_
        refine g_iload_n F dX8_awayBut_13 rfl 3 rfl ?_
        refine g_iload_n F dX8_awayBut_14 rfl 1 rfl ?_
        refine g_icmp_eq 36 F dX8_awayBut_15 (by omega) (by omega) rfl (fun c_2 => ?_) (fun c_2 => ?_)
        · skip
          refine g_iconst F dX8_awayBut_36 (0) (by decide) ?_
          refine g_iadd F dX8_awayBut_37 ?_
          refine g_istore_n F [(2, .int (J ((a) + (0)))), (0, .ref (ad 8 (0))), (1, .int (J (i))), (3, .int (J (j)))] dX8_awayBut_38 rfl (by decide) rfl ?_
          refine g_iinc F [(3, .int (J (j + 1))), (2, .int (J ((a) + (0)))), (0, .ref (ad 8 (0))), (1, .int (J (i)))] 3 rfl dX8_awayBut_39 (by decide) rfl ?_
          refine g_goto F 4 dX8_awayBut_42 rfl ?_
          refine g_sub [2, 3, 1, 0] (lv' := [(0, .ref (ad 8 (0))), (1, .int (J (i))), (2, .int (J ((a) + (0)))), (3, .int (J (j + 1)))]) rfl ?_
          exact ih4 ((a) + (0)) (j + 1) (by omega) (by rw [sumZ_s _ (by omega), ← ha]; (repeat' split) <;> first | omega | contradiction) (by omega)
        · skip
          refine g_aload_n F dX8_awayBut_18 rfl 0 rfl ?_
          refine g_iload_n F dX8_awayBut_19 rfl 3 rfl ?_
          refine g_aload_n F dX8_awayBut_20 rfl 0 rfl ?_
          refine gg_Model_row F fk_X8_7 dX8_awayBut_21 ?_
          refine g_iconst F dX8_awayBut_24 (1) (by decide) ?_
          refine ga_40 F (by decide) dX8_awayBut_25 ?_
          refine g_topi (b := z 15 0 0) (SB_00 hB) ?_
          refine g_callV 2 F (As := [.int (J (j)), .int (J (z 15 0 0))]) (st := [.int (J (a))]) (c_X8_doesCome l D ad x y z (j) (z 15 0 0) (hST) (hN) (by omega) (by omega)) (gR_8) rfl mk_X8_185 ki_X8_doesCome kc_X8_doesCome (by decide +kernel) rfl (by decide) dX8_awayBut_26 rfl (Nat.le_of_ble_eq_true rfl) (pB_k ?_)
          refine g_ifb_ne 36 F dX8_awayBut_29 rfl (fun c_3 => ?_) (fun c_3 => ?_)
          · skip
            refine g_iconst F dX8_awayBut_36 (0) (by decide) ?_
            refine g_iadd F dX8_awayBut_37 ?_
            refine g_istore_n F [(2, .int (J ((a) + (0)))), (0, .ref (ad 8 (0))), (1, .int (J (i))), (3, .int (J (j)))] dX8_awayBut_38 rfl (by decide) rfl ?_
            refine g_iinc F [(3, .int (J (j + 1))), (2, .int (J ((a) + (0)))), (0, .ref (ad 8 (0))), (1, .int (J (i)))] 3 rfl dX8_awayBut_39 (by decide) rfl ?_
            refine g_goto F 4 dX8_awayBut_42 rfl ?_
            refine g_sub [2, 3, 1, 0] (lv' := [(0, .ref (ad 8 (0))), (1, .int (J (i))), (2, .int (J ((a) + (0)))), (3, .int (J (j + 1)))]) rfl ?_
            exact ih4 ((a) + (0)) (j + 1) (by omega) (by rw [sumZ_s _ (by omega), ← ha]; (repeat' split) <;> first | omega | contradiction) (by omega)
          · skip
            refine g_iconst F dX8_awayBut_32 (1) (by decide) ?_
            refine g_goto F 37 dX8_awayBut_33 rfl ?_
            refine g_iadd F dX8_awayBut_37 ?_
            refine g_istore_n F [(2, .int (J ((a) + (1)))), (0, .ref (ad 8 (0))), (1, .int (J (i))), (3, .int (J (j)))] dX8_awayBut_38 rfl (by decide) rfl ?_
            refine g_iinc F [(3, .int (J (j + 1))), (2, .int (J ((a) + (1)))), (0, .ref (ad 8 (0))), (1, .int (J (i)))] 3 rfl dX8_awayBut_39 (by decide) rfl ?_
            refine g_goto F 4 dX8_awayBut_42 rfl ?_
            refine g_sub [2, 3, 1, 0] (lv' := [(0, .ref (ad 8 (0))), (1, .int (J (i))), (2, .int (J ((a) + (1)))), (3, .int (J (j + 1)))]) rfl ?_
            exact ih4 ((a) + (1)) (j + 1) (by omega) (by rw [sumZ_s _ (by omega), ← ha]; (repeat' split) <;> first | omega | contradiction) (by omega)
  refine g_sub [2, 3, 1, 0] (lv' := [(0, .ref (ad 8 (0))), (1, .int (J (i))), (2, .int (J (0))), (3, .int (J (0)))]) rfl ?_
  exact L4 _ (0) (0) (by omega) (rfl) (Nat.lt_succ_self _)
