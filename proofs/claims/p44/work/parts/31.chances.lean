/-! fractions -/
def gcZ (a b : Int) : Int := ((Nat.gcd a.toNat b.toNat : Nat) : Int)
theorem gcZ_s {a b : Int} (ha : 0 ≤ a) (hb : 0 ≤ b) : gcZ a b = gcZ b (a % b) := by
  unfold gcZ
  rw [Int.toNat_emod ha hb, Nat.gcd_comm a.toNat b.toNat, Nat.gcd_rec b.toNat a.toNat, Nat.gcd_comm]
theorem gcZ_z (a : Int) (ha : 0 ≤ a) : gcZ a 0 = a := by
  unfold gcZ
  rw [show (0 : Int).toNat = 0 from rfl, Nat.gcd_zero_right, Int.toNat_of_nonneg ha]
theorem gcZ_r {a b : Int} (ha : 0 ≤ a) (hb : 0 ≤ b) : 0 ≤ gcZ a b ∧ gcZ a b ≤ a + b := by
  unfold gcZ
  refine ⟨by omega, ?_⟩
  rcases Nat.eq_zero_or_pos a.toNat with h | h
  · rw [h, Nat.gcd_zero_left]; omega
  · have := Nat.gcd_le_left b.toNat h
    omega
def bdN : Nat → Int
  | 0 => 10000000
  | k + 1 => 2 * bdN k / 3
theorem bdN_100 : bdN 99 = 0 := by decide +kernel
theorem em_sub {c r : Int} (hr : 0 < r) (hc : r ≤ c) : c % r ≤ c - r := by
  have h := Int.emod_add_mul_ediv c r
  have hq : 1 ≤ c / r := Int.le_ediv_of_mul_le hr (by omega)
  have h2 : r * 1 ≤ r * (c / r) := Int.mul_le_mul_of_nonneg_left hq (by omega)
  omega
theorem em_r {c r : Int} (hr : 0 < r) : 0 ≤ c % r ∧ c % r < r := ⟨Int.emod_nonneg c (by omega), Int.emod_lt_of_pos c hr⟩
theorem bdN_s {c r j : Int} (hj : 0 ≤ j) (hc : 0 ≤ c) (hr : 0 < r) (h1 : j = 0 ∨ r ≤ c) (h2 : c + r ≤ bdN (j - 1).toNat) : r + c % r ≤ bdN (j + 1 - 1).toNat := by
  have e := em_r (c := c) hr
  rcases (show j = 0 ∨ 1 ≤ j by omega) with q | q
  · subst q
    have e2 : c % r ≤ c := by
      rcases Int.lt_or_le c r with w | w
      · rw [Int.emod_eq_of_lt hc w]; omega
      · have := em_sub hr w; omega
    show r + c % r ≤ bdN 0
    have : c + r ≤ bdN 0 := h2
    omega
  · have e3 := em_sub hr (show r ≤ c by omega)
    rw [show (j + 1 - 1).toNat = (j - 1).toNat + 1 by omega]
    show r + c % r ≤ 2 * bdN (j - 1).toNat / 3
    omega
def tfM (x : gX) (u w : Int) : gX := xU (xU x 8 0 0 (if gcZ w u = 0 then 0 else u / gcZ w u)) 9 0 0 (if gcZ w u = 0 then 1 else w / gcZ w u)
/-! what is told by a heat, chances -/
abbrev cnU (x : gX) (h : Int) : Int := sumZ (fun i => if x 6 i 0 = -9 ∧ vU x i h = 1 then 1 else 0) (x 10 0 0)
abbrev gnU (x : gX) (h : Int) : Int := sumZ (fun i => if x 6 i 0 = -9 ∧ vU x i h = 1 then x 2 i 0 else 0) (x 10 0 0)
def sTells (x : gX) (h : Int) : Int × gX := if hRf x 30 h ≠ 0 then (hRf x 30 h, x) else (1, tfM x (gnU x h) (cnU x h))
def pdN (f : Int → Int) : Nat → Int
  | 0 => 1
  | k + 1 => pdN f k * f (k : Int)
def pdZ (f : Int → Int) (n : Int) : Int := pdN f n.toNat
theorem pdZ_s (f : Int → Int) {j : Int} (h : 0 ≤ j) : pdZ f (j + 1) = pdZ f j * f j := by
  unfold pdZ
  rw [show (j + 1).toNat = j.toNat + 1 by omega]
  show pdN f j.toNat * f (j.toNat : Int) = _
  rw [Int.toNat_of_nonneg h]
theorem pdN_cong {f g : Int → Int} : ∀ {n : Nat}, (∀ i : Int, 0 ≤ i → i < n → f i = g i) → pdN f n = pdN g n
  | 0, _ => rfl
  | k + 1, h => by
    show pdN f k * f k = pdN g k * g k
    rw [pdN_cong (fun i h0 h1 => h i h0 (by omega)), h k (by omega) (by omega)]
theorem pdZ_cong {f g : Int → Int} {n : Int} (h : ∀ i : Int, 0 ≤ i → i < n → f i = g i) : pdZ f n = pdZ g n := pdN_cong (fun i h0 h1 => h i h0 (by omega))
theorem pdN_r {f : Int → Int} (hf : ∀ i : Int, 0 ≤ f i ∧ f i ≤ 12) : ∀ k : Nat, 0 ≤ pdN f k ∧ pdN f k ≤ 12 ^ k
  | 0 => ⟨(by show (0 : Int) ≤ 1; decide), Int.le_refl _⟩
  | k + 1 => by
    have a := pdN_r hf k
    have b := hf (k : Int)
    show 0 ≤ pdN f k * f k ∧ pdN f k * f k ≤ 12 ^ (k + 1)
    rw [Int.pow_succ]
    exact ⟨Int.mul_nonneg a.1 b.1, Int.mul_le_mul a.2 b.2 b.1 (by omega)⟩
theorem pdZ_r {f : Int → Int} {n : Int} (hn : 0 ≤ n ∧ n ≤ 6) (hf : ∀ i : Int, 0 ≤ f i ∧ f i ≤ 12) : 0 ≤ pdZ f n ∧ pdZ f n ≤ 2985984 := by
  have a := pdN_r hf n.toNat
  have b : (12 : Int) ^ n.toNat ≤ 12 ^ 6 := by
    have := Nat.pow_le_pow_right (show 1 ≤ 12 by decide) (show n.toNat ≤ 6 by omega)
    exact_mod_cast this
  have c : (12 : Int) ^ 6 = 2985984 := by decide
  unfold pdZ; omega
theorem ccU_r {x : gX} {i p : Int} (hp : 0 ≤ p ∧ p ≤ 12) : 0 ≤ ccU x i p ∧ ccU x i p ≤ 12 := by unfold ccU; (repeat' split) <;> omega
abbrev ouU (x : gX) (p : Int) : Int := pdZ (fun i => if mbU x i then ccU x i p else 1) (x 10 0 0)
abbrev olU (x : gX) : Int := pdZ (fun i => if mbU x i then 12 else 1) (x 10 0 0)
def sOdds (x : gX) (p : Int) : Int × gX := if hRf x 12 p ≠ 0 then (hRf x 12 p, x) else (1, tfM x (ouU x p) (olU x))
abbrev mdU (x : gX) (p : Int) : Int := sumZ (fun i => if x 6 i 0 = -9 ∧ cU x i (x 15 0 0) then ccU x i p else 0) (x 10 0 0)
def sMid (x : gX) (p : Int) : Int × gX := if hRf x 12 p ≠ 0 then (hRf x 12 p, x) else (1, tfM x (mdU x p) 12)
abbrev ndU (x : gX) (i : Int) : Int := if mbU x i then snU x i else 0
abbrev lsP (x : gX) (n : Int) : Prop := sumZ (fun i => if x 5 i 0 + ndU x i ≤ 3 then 0 else 1) n = 0
def sLeast (x : gX) : Int × gX := if x 10 0 0 = 0 then (-4, x) else if ¬ lsP x (x 10 0 0) then (-9, x) else (sumZ (fun i => ndU x i) (x 10 0 0), xU x 19 0 0 (sumZ (fun i => if 0 < ndU x i then 1 else 0) (x 10 0 0)))
theorem snU_r {x : gX} {i : Int} (hN : NOK x) (hm : MOK x i) : 0 ≤ snU x i ∧ snU x i ≤ 200 := by
  have a := lU_r hN.1 hm (h := x 15 0 0) (by have := hN.2.2.1; omega)
  have b := tdiv2_r (a := lU x i (x 15 0 0) + 1) (by omega)
  unfold snU; omega
theorem mm_no {P : Int → Prop} [DecidablePred P] {j n : Int} (h0 : 0 ≤ j) (h1 : j < n) (h : ¬ P j) : ¬ sumZ (fun q => if P q then 0 else 1) n = 0 := fun q => h ((mmZ_iff (by omega)).mp q j h0 h1)
set_option maxRecDepth 20000 in
theorem c_X7_commonDivisor (l : Launch) (D : gD) (ad : gA) (x : gX) (y : gY) (a b : Int) (ha : 0 ≤ a ∧ a ≤ 4000000) (hb : 0 ≤ b ∧ b ≤ 4000000) : gC l D ad 0 yX7_commonDivisor cX7_commonDivisor 11 (some .long) [.long (Lg (a)), .long (Lg (b))] x y (pL (gcZ a b) (x) (y)) := by
  refine g_met RX7 rfl (by decide +kernel) [(0, .long (Lg (a))), (2, .long (Lg (b)))] rfl (Nat.le_of_ble_eq_true rfl) (fun Θ F hR => ?_)
  refine g_lload_n F dX7_commonDivisor_0 rfl 0 rfl ?_
  refine g_lstore F [(4, .long (Lg (a))), (0, .long (Lg (a))), (2, .long (Lg (b)))] dX7_commonDivisor_1 (by decide) rfl ?_
  refine g_lload_n F dX7_commonDivisor_3 rfl 2 rfl ?_
  refine g_lstore F [(6, .long (Lg (b))), (4, .long (Lg (a))), (0, .long (Lg (a))), (2, .long (Lg (b)))] dX7_commonDivisor_4 (by decide) rfl ?_
  refine g_iconst F dX7_commonDivisor_6 (0) (by decide) ?_
  refine g_istore F [(8, .int (J (0))), (6, .long (Lg (b))), (4, .long (Lg (a))), (0, .long (Lg (a))), (2, .long (Lg (b)))] dX7_commonDivisor_7 (by decide) rfl ?_
  have L9 : ∀ (N : Nat) (c : Int) (r : Int) (j : Int), 0 ≤ j ∧ j ≤ 100 → (0 ≤ c ∧ c ≤ 4000000) ∧ 0 ≤ r ∧ r ≤ 4000000 → j = 0 ∨ r ≤ c → c + r ≤ bdN (j - 1).toNat → gcZ a b = gcZ c r → (100 - j).toNat < N → gW Θ l D ad 11 9 [(4, .long (Lg (c))), (6, .long (Lg (r))), (8, .int (J (j)))] [] x y := by
    intro N
    induction N with
    | zero => intro c r j hj hc hd hb hg hFu; omega
    | succ N ih9 =>
      intro c r j hj hc hd hb hg hFu
      refine g_iload F dX7_commonDivisor_9 2 rfl ?_
      refine g_bipush F dX7_commonDivisor_11 (100) (by decide) ?_
      refine g_icmp_ge 44 F dX7_commonDivisor_13 (by omega) (by decide) rfl (fun c_1 => ?_) (fun c_1 => ?_)
      · skip
        refine g_lload F dX7_commonDivisor_44 0 rfl ?_
        exact g_lreturn F hR dX7_commonDivisor_46 (pL_i (by first | (rw [hg, show r = 0 by omega, gcZ_z _ hc.1.1]; done) | (rw [show j = 100 by omega] at hb; have hz := bdN_100; rw [hg, show r = 0 by (have : c + r ≤ bdN 99 := hb); omega, gcZ_z _ hc.1.1])) rfl rfl)
      · skip
        refine g_lload F dX7_commonDivisor_16 1 rfl ?_
        refine g_lconst F dX7_commonDivisor_18 0 (by decide) ?_
        refine g_lcmp_eq 44 F dX7_commonDivisor_19 dX7_commonDivisor_20 (by omega) (by decide) rfl (fun c_2 => ?_) (fun c_2 => ?_)
        · skip
          refine g_lload F dX7_commonDivisor_44 0 rfl ?_
          exact g_lreturn F hR dX7_commonDivisor_46 (pL_i (by first | (rw [hg, show r = 0 by omega, gcZ_z _ hc.1.1]; done) | (rw [show j = 100 by omega] at hb; have hz := bdN_100; rw [hg, show r = 0 by (have : c + r ≤ bdN 99 := hb); omega, gcZ_z _ hc.1.1])) rfl rfl)
        · skip
          refine g_lload F dX7_commonDivisor_23 0 rfl ?_
          refine g_lload F dX7_commonDivisor_25 1 rfl ?_
          refine g_lremp F dX7_commonDivisor_27 (by omega) (by omega) (by omega) (by omega) ?_
          refine g_lstore F [(9, .long (Lg ((c) % (r)))), (4, .long (Lg (c))), (6, .long (Lg (r))), (8, .int (J (j)))] dX7_commonDivisor_28 (by decide) rfl ?_
          refine g_lload F dX7_commonDivisor_30 2 rfl ?_
          refine g_lstore F [(4, .long (Lg (r))), (9, .long (Lg ((c) % (r)))), (6, .long (Lg (r))), (8, .int (J (j)))] dX7_commonDivisor_32 (by decide) rfl ?_
          refine g_lload F dX7_commonDivisor_34 1 rfl ?_
          refine g_lstore F [(6, .long (Lg ((c) % (r)))), (4, .long (Lg (r))), (9, .long (Lg ((c) % (r)))), (8, .int (J (j)))] dX7_commonDivisor_36 (by decide) rfl ?_
          refine g_iinc F [(8, .int (J (j + 1))), (6, .long (Lg ((c) % (r)))), (4, .long (Lg (r))), (9, .long (Lg ((c) % (r))))] 3 rfl dX7_commonDivisor_38 (by decide) rfl ?_
          refine g_goto F 9 dX7_commonDivisor_41 rfl ?_
          refine g_sub [2, 1, 0] (lv' := [(4, .long (Lg (r))), (6, .long (Lg ((c) % (r)))), (8, .int (J (j + 1)))]) rfl ?_
          exact ih9 (r) ((c) % (r)) (j + 1) (by omega) (by have := em_r (c := c) (r := r) (by omega); omega) (by have := em_r (c := c) (r := r) (by omega); omega) (bdN_s hj.1 hc.1.1 (by omega) hd hb) (hg.trans (gcZ_s hc.1.1 hc.2.1)) (by omega)
  refine g_sub [2, 1, 0] (lv' := [(4, .long (Lg (a))), (6, .long (Lg (b))), (8, .int (J (0)))]) rfl ?_
  exact L9 _ (a) (b) (0) (by omega) (by omega) (by omega) (by show a + b ≤ (10000000 : Int); omega) (rfl) (Nat.lt_succ_self _)

set_option maxRecDepth 20000 in
theorem c_X7_tellFraction (l : Launch) (D : gD) (ad : gA) (x : gX) (y : gY) (u w : Int) (hu : 0 ≤ u ∧ u ≤ 4000000) (hw : 0 ≤ w ∧ w ≤ 4000000) : gC l D ad 1 yX7_tellFraction cX7_tellFraction 7 none [.ref (ad 7 (0)), .long (Lg (u)), .long (Lg (w))] x y (pV (tfM x u w) (y)) := by
  refine g_met RX7 rfl (by decide +kernel) [(0, .ref (ad 7 (0))), (1, .long (Lg (u))), (3, .long (Lg (w)))] rfl (Nat.le_of_ble_eq_true rfl) (fun Θ F hR => ?_)
  refine g_lload_n F dX7_tellFraction_0 rfl 2 rfl ?_
  refine g_lload_n F dX7_tellFraction_1 rfl 1 rfl ?_
  refine g_callS 2 F (As := [.long (Lg (w)), .long (Lg (u))]) (st := []) (c_X7_commonDivisor l D ad x y (w) (u) (by omega) (by omega)) rfl mk_X7_348 ki_X7_commonDivisor kc_X7_commonDivisor (by decide +kernel) rfl (by decide) dX7_tellFraction_2 rfl (Nat.le_of_ble_eq_true rfl) (pL_k ?_)
  have hr := gcZ_r hw.1 hu.1
  refine g_lstore F [(5, .long (Lg (gcZ (w) (u)))), (0, .ref (ad 7 (0))), (1, .long (Lg (u))), (3, .long (Lg (w)))] dX7_tellFraction_5 (by decide) rfl ?_
  refine g_aload_n F dX7_tellFraction_7 rfl 1 rfl ?_
  refine g_lload F dX7_tellFraction_8 0 rfl ?_
  refine g_lconst F dX7_tellFraction_10 0 (by decide) ?_
  refine g_lcmp_ne 19 F dX7_tellFraction_11 dX7_tellFraction_12 (by omega) (by decide) rfl (fun c_1 => ?_) (fun c_1 => ?_)
  · skip
    refine g_lload_n F dX7_tellFraction_19 rfl 2 rfl ?_
    refine g_lload F dX7_tellFraction_20 0 rfl ?_
    refine g_ldivp F dX7_tellFraction_22 (by omega) (by omega) (by omega) (by omega) ?_
    refine gp_Day_upperTold F fk_X7_308 dX7_tellFraction_23 ?_
    refine g_aload_n F dX7_tellFraction_26 rfl 1 rfl ?_
    refine g_lload F dX7_tellFraction_27 0 rfl ?_
    refine g_lconst F dX7_tellFraction_29 0 (by decide) ?_
    refine g_lcmp_ne 38 F dX7_tellFraction_30 dX7_tellFraction_31 (by omega) (by decide) rfl (fun c_2 => ?_) (fun c_2 => ?_)
    · skip
      refine g_lload_n F dX7_tellFraction_38 rfl 3 rfl ?_
      refine g_lload F dX7_tellFraction_39 0 rfl ?_
      refine g_ldivp F dX7_tellFraction_41 (by omega) (by omega) (by omega) (by omega) ?_
      refine gp_Day_lowerTold F fk_X7_56 dX7_tellFraction_42 ?_
      exact g_vreturn F hR dX7_tellFraction_45 (pV_i (by unfold tfM; (repeat' split) <;> first | rfl | (exfalso; omega)) rfl)
    · skip
      refine g_lconst F dX7_tellFraction_34 1 (by decide) ?_
      refine g_goto F 42 dX7_tellFraction_35 rfl ?_
      refine gp_Day_lowerTold F fk_X7_56 dX7_tellFraction_42 ?_
      exact g_vreturn F hR dX7_tellFraction_45 (pV_i (by unfold tfM; (repeat' split) <;> first | rfl | (exfalso; omega)) rfl)
  · skip
    refine g_lconst F dX7_tellFraction_15 0 (by decide) ?_
    refine g_goto F 23 dX7_tellFraction_16 rfl ?_
    refine gp_Day_upperTold F fk_X7_308 dX7_tellFraction_23 ?_
    refine g_aload_n F dX7_tellFraction_26 rfl 1 rfl ?_
    refine g_lload F dX7_tellFraction_27 0 rfl ?_
    refine g_lconst F dX7_tellFraction_29 0 (by decide) ?_
    refine g_lcmp_ne 38 F dX7_tellFraction_30 dX7_tellFraction_31 (by omega) (by decide) rfl (fun c_3 => ?_) (fun c_3 => ?_)
    · skip
      refine g_lload_n F dX7_tellFraction_38 rfl 3 rfl ?_
      refine g_lload F dX7_tellFraction_39 0 rfl ?_
      refine g_ldivp F dX7_tellFraction_41 (by omega) (by omega) (by omega) (by omega) ?_
      refine gp_Day_lowerTold F fk_X7_56 dX7_tellFraction_42 ?_
      exact g_vreturn F hR dX7_tellFraction_45 (pV_i (by unfold tfM; (repeat' split) <;> first | rfl | (exfalso; omega)) rfl)
    · skip
      refine g_lconst F dX7_tellFraction_34 1 (by decide) ?_
      refine g_goto F 42 dX7_tellFraction_35 rfl ?_
      refine gp_Day_lowerTold F fk_X7_56 dX7_tellFraction_42 ?_
      exact g_vreturn F hR dX7_tellFraction_45 (pV_i (by unfold tfM; (repeat' split) <;> first | rfl | (exfalso; omega)) rfl)

set_option maxRecDepth 20000 in
theorem c_X7_tells (l : Launch) (D : gD) (ad : gA) (x : gX) (y : gY) (h : Int) (hh : i32 h) (hV : INV x) : gC l D ad 4 yX7_tells cX7_tells 7 (some .int) [.ref (ad 7 (0)), .int (J (h))] x y (pI ((sTells x h).1) ((sTells x h).2) (y)) := by
  refine g_met RX7 rfl (by decide +kernel) [(0, .ref (ad 7 (0))), (1, .int (J (h)))] rfl (Nat.le_of_ble_eq_true rfl) (fun Θ F hR => ?_)
  obtain ⟨hN, hRW, hDD, hCU, hMS⟩ := hV
  refine g_aload_n F dX7_tells_0 rfl 0 rfl ?_
  refine g_iload_n F dX7_tells_1 rfl 1 rfl ?_
  refine g_callV 1 F (As := [.int (J (h))]) (st := []) (c_X7_heatRefusal l D ad x y (h) (by omega) (by omega)) (gR_7) rfl mk_X7_202 ki_X7_heatRefusal kc_X7_heatRefusal (by decide +kernel) rfl (by decide) dX7_tells_2 rfl (Nat.le_of_ble_eq_true rfl) (pI_k ?_)
  have hr := hRf_r x 30 h
  refine g_istore_n F [(2, .int (J (hRf x 30 (h)))), (0, .ref (ad 7 (0))), (1, .int (J (h)))] dX7_tells_5 rfl (by decide) rfl ?_
  refine g_iload_n F dX7_tells_6 rfl 0 rfl ?_
  refine g_if_eq 12 F dX7_tells_7 (by omega) rfl (fun c_1 => ?_) (fun c_1 => ?_)
  · skip
    have hq := hRf_0 c_1
    refine g_iconst F dX7_tells_12 (0) (by decide) ?_
    refine g_istore_n F [(3, .int (J (0))), (2, .int (J (hRf x 30 (h)))), (0, .ref (ad 7 (0))), (1, .int (J (h)))] dX7_tells_13 rfl (by decide) rfl ?_
    refine g_iconst F dX7_tells_14 (0) (by decide) ?_
    refine g_istore F [(4, .int (J (0))), (3, .int (J (0))), (2, .int (J (hRf x 30 (h)))), (0, .ref (ad 7 (0))), (1, .int (J (h)))] dX7_tells_15 (by decide) rfl ?_
    refine g_iconst F dX7_tells_17 (0) (by decide) ?_
    refine g_istore F [(5, .int (J (0))), (4, .int (J (0))), (3, .int (J (0))), (2, .int (J (hRf x 30 (h)))), (0, .ref (ad 7 (0))), (1, .int (J (h)))] dX7_tells_18 (by decide) rfl ?_
    have L20 : ∀ (N : Nat) (a : Int) (b : Int) (j : Int), 0 ≤ j ∧ j ≤ x 10 0 0 → a = sumZ (fun i => if x 6 i 0 = -9 ∧ vU x i h = 1 then 1 else 0) j → b = sumZ (fun i => if x 6 i 0 = -9 ∧ vU x i h = 1 then x 2 i 0 else 0) j → (x 10 0 0 - j).toNat < N → gW Θ l D ad 7 20 [(0, .ref (ad 7 (0))), (1, .int (J (h))), (3, .int (J (a))), (4, .int (J (b))), (5, .int (J (j)))] [] x y := by
      intro N
      induction N with
      | zero => intro a b j hj ha hb hFu; omega
      | succ N ih20 =>
        intro a b j hj ha hb hFu
        refine g_iload F dX7_tells_20 4 rfl ?_
        refine g_aload_n F dX7_tells_22 rfl 0 rfl ?_
        refine gg_Day_court F fk_X7_28 dX7_tells_23 ?_
        refine ggN_Court_size F fk_X7_121 dX7_tells_26 ?_
        refine g_icmp_ge 85 F dX7_tells_29 (by omega) (by omega) rfl (fun c_2 => ?_) (fun c_2 => ?_)
        · skip
          have h10 := hN.2.1
          have ra : 0 ≤ a ∧ a ≤ 6 := by (have q : 0 ≤ sumZ (fun i => if x 6 i 0 = -9 ∧ vU x i h = 1 then 1 else 0) (x 10 0 0) ∧ sumZ (fun i => if x 6 i 0 = -9 ∧ vU x i h = 1 then 1 else 0) (x 10 0 0) ≤ x 10 0 0 := cntZ_r hN.2.1.1); rw [ha, show j = x 10 0 0 by omega]; omega
          have rb : 0 ≤ b ∧ b ≤ 6 := by (have q : 0 * x 10 0 0 ≤ sumZ (fun i => if x 6 i 0 = -9 ∧ vU x i h = 1 then x 2 i 0 else 0) (x 10 0 0) ∧ sumZ (fun i => if x 6 i 0 = -9 ∧ vU x i h = 1 then x 2 i 0 else 0) (x 10 0 0) ≤ 1 * x 10 0 0 := sumZ_range hN.2.1.1 (fun i i0 i1 => by have := hN.2.2.2 i i0 i1; show 0 ≤ (if x 6 i 0 = -9 ∧ vU x i h = 1 then x 2 i 0 else 0) ∧ (if x 6 i 0 = -9 ∧ vU x i h = 1 then x 2 i 0 else 0) ≤ 1; split <;> omega)); rw [hb, show j = x 10 0 0 by omega]; omega
          refine g_aload_n F dX7_tells_85 rfl 0 rfl ?_
          refine g_iload F dX7_tells_86 3 rfl ?_
          refine g_i2l F dX7_tells_88 (by omega) ?_
          refine g_iload_n F dX7_tells_89 rfl 2 rfl ?_
          refine g_i2l F dX7_tells_90 (by omega) ?_
          refine g_callV 2 F (As := [.long (Lg (b)), .long (Lg (a))]) (st := []) (c_X7_tellFraction l D ad x y (b) (a) (by omega) (by omega)) (gR_7) rfl mk_X7_217 ki_X7_tellFraction kc_X7_tellFraction (by decide +kernel) rfl (by decide) dX7_tells_91 rfl (Nat.le_of_ble_eq_true rfl) (pV_k ?_)
          refine g_iconst F dX7_tells_94 (1) (by decide) ?_
          exact g_ireturn F hR dX7_tells_95 (pI_i (by unfold sTells; (repeat' split) <;> first | rfl | (exfalso; omega)) (by unfold sTells; first | (rw [if_pos (by omega)]; done) | (rw [if_neg (by omega), ha, hb, show j = x 10 0 0 by omega])) rfl)
        · skip
          have hm := hN.2.2.2 j (by omega) (by omega)
          have hv := vU_r x j h
          refine g_aload_n F dX7_tells_32 rfl 0 rfl ?_
          refine gg_Day_court F fk_X7_28 dX7_tells_33 ?_
          refine ggN_Court_men F fk_X7_126 dX7_tells_36 ?_
          refine g_iload F dX7_tells_39 4 rfl ?_
          refine ga_32 F (by omega) dX7_tells_41 ?_
          refine g_astore F [(6, .ref (ad 3 (j))), (0, .ref (ad 7 (0))), (1, .int (J (h))), (3, .int (J (a))), (4, .int (J (b))), (5, .int (J (j)))] dX7_tells_42 (by decide) rfl ?_
          refine g_aload F dX7_tells_44 0 rfl ?_
          refine g_callV 0 F (As := []) (st := []) (c_X3_isTried l D ad x y (j) (by omega) (hm)) (gR_3 (by omega)) rfl mk_X7_180 ki_X3_isTried kc_X3_isTried (by decide +kernel) rfl (by decide) dX7_tells_46 rfl (Nat.le_of_ble_eq_true rfl) (pB_k ?_)
          refine g_ifb_ne 79 F dX7_tells_49 rfl (fun c_3 => ?_) (fun c_3 => ?_)
          · skip
            refine g_iinc F [(5, .int (J (j + 1))), (6, .ref (ad 3 (j))), (0, .ref (ad 7 (0))), (1, .int (J (h))), (3, .int (J (a))), (4, .int (J (b)))] 5 rfl dX7_tells_79 (by decide) rfl ?_
            refine g_goto F 20 dX7_tells_82 rfl ?_
            refine g_sub [2, 3, 4, 5, 0] (lv' := [(0, .ref (ad 7 (0))), (1, .int (J (h))), (3, .int (J (a))), (4, .int (J (b))), (5, .int (J (j + 1)))]) rfl ?_
            exact ih20 (a) (b) (j + 1) (by omega) (by rw [sumZ_s _ (by omega), ← ha]; (repeat' split) <;> first | omega | contradiction) (by rw [sumZ_s _ (by omega), ← hb]; (repeat' split) <;> first | omega | contradiction) (by omega)
          · skip
            refine g_aload_n F dX7_tells_52 rfl 1 rfl ?_
            refine gg_Day_court F fk_X7_28 dX7_tells_53 ?_
            refine g_aload F dX7_tells_56 0 rfl ?_
            refine g_iload_n F dX7_tells_58 rfl 2 rfl ?_
            refine g_callV 2 F (As := [.ref (ad 3 (j)), .int (J (h))]) (st := []) (c_X0_verdict l D ad x y (j) (h) (by omega) (by omega) (hm) (by omega)) (gR_0) rfl mk_X7_200 ki_X0_verdict kc_X0_verdict (by decide +kernel) rfl (by decide) dX7_tells_59 rfl (Nat.le_of_ble_eq_true rfl) (pI_k ?_)
            refine g_iconst F dX7_tells_62 (1) (by decide) ?_
            refine g_icmp_ne 79 F dX7_tells_63 (by omega) (by decide) rfl (fun c_4 => ?_) (fun c_4 => ?_)
            · skip
              refine g_iinc F [(5, .int (J (j + 1))), (6, .ref (ad 3 (j))), (0, .ref (ad 7 (0))), (1, .int (J (h))), (3, .int (J (a))), (4, .int (J (b)))] 5 rfl dX7_tells_79 (by decide) rfl ?_
              refine g_goto F 20 dX7_tells_82 rfl ?_
              refine g_sub [2, 3, 4, 5, 0] (lv' := [(0, .ref (ad 7 (0))), (1, .int (J (h))), (3, .int (J (a))), (4, .int (J (b))), (5, .int (J (j + 1)))]) rfl ?_
              exact ih20 (a) (b) (j + 1) (by omega) (by rw [sumZ_s _ (by omega), ← ha]; (repeat' split) <;> first | omega | contradiction) (by rw [sumZ_s _ (by omega), ← hb]; (repeat' split) <;> first | omega | contradiction) (by omega)
            · skip
              refine g_iinc F [(3, .int (J (a + 1))), (6, .ref (ad 3 (j))), (0, .ref (ad 7 (0))), (1, .int (J (h))), (4, .int (J (b))), (5, .int (J (j)))] 3 rfl dX7_tells_66 (by decide) rfl ?_
              refine g_iload F dX7_tells_69 4 rfl ?_
              refine g_aload F dX7_tells_71 1 rfl ?_
              refine ggN_Man_guilt F (by omega) fk_X7_214 dX7_tells_73 ?_
              refine g_iadd F dX7_tells_76 ?_
              refine g_istore F [(4, .int (J ((b) + (x 2 (j) (0))))), (3, .int (J (a + 1))), (6, .ref (ad 3 (j))), (0, .ref (ad 7 (0))), (1, .int (J (h))), (5, .int (J (j)))] dX7_tells_77 (by decide) rfl ?_
              refine g_iinc F [(5, .int (J (j + 1))), (4, .int (J ((b) + (x 2 (j) (0))))), (3, .int (J (a + 1))), (6, .ref (ad 3 (j))), (0, .ref (ad 7 (0))), (1, .int (J (h)))] 5 rfl dX7_tells_79 (by decide) rfl ?_
              refine g_goto F 20 dX7_tells_82 rfl ?_
              refine g_sub [4, 5, 2, 1, 0] (lv' := [(0, .ref (ad 7 (0))), (1, .int (J (h))), (3, .int (J (a + 1))), (4, .int (J ((b) + (x 2 (j) (0))))), (5, .int (J (j + 1)))]) rfl ?_
              exact ih20 (a + 1) ((b) + (x 2 (j) (0))) (j + 1) (by omega) (by rw [sumZ_s _ (by omega), ← ha]; (repeat' split) <;> first | omega | contradiction) (by rw [sumZ_s _ (by omega), ← hb]; (repeat' split) <;> first | omega | contradiction) (by omega)
    refine g_sub [4, 5, 2, 1, 0] (lv' := [(0, .ref (ad 7 (0))), (1, .int (J (h))), (3, .int (J (0))), (4, .int (J (0))), (5, .int (J (0)))]) rfl ?_
    exact L20 _ (0) (0) (0) (by omega) (rfl) (rfl) (Nat.lt_succ_self _)
  · skip
    refine g_iload_n F dX7_tells_10 rfl 0 rfl ?_
    exact g_ireturn F hR dX7_tells_11 (pI_i (by unfold sTells; (repeat' split) <;> first | rfl | (exfalso; omega)) (by unfold sTells; first | (rw [if_pos (by omega)]; done) | (rw [if_neg (by omega), ha, hb, show j = x 10 0 0 by omega])) rfl)

set_option maxRecDepth 20000 in
theorem c_X7_odds (l : Launch) (D : gD) (ad : gA) (x : gX) (y : gY) (p : Int) (hp : i32 p) (hV : INV x) : gC l D ad 4 yX7_odds cX7_odds 9 (some .int) [.ref (ad 7 (0)), .int (J (p))] x y (pI ((sOdds x p).1) ((sOdds x p).2) (y)) := by
  refine g_met RX7 rfl (by decide +kernel) [(0, .ref (ad 7 (0))), (1, .int (J (p)))] rfl (Nat.le_of_ble_eq_true rfl) (fun Θ F hR => ?_)
  obtain ⟨hN, hRW, hDD, hCU, hMS⟩ := hV
  refine g_aload_n F dX7_odds_0 rfl 0 rfl ?_
  refine g_iload_n F dX7_odds_1 rfl 1 rfl ?_
  refine g_callV 1 F (As := [.int (J (p))]) (st := []) (c_X7_chanceRefusal l D ad x y (p) (by omega) (by omega)) (gR_7) rfl mk_X7_282 ki_X7_chanceRefusal kc_X7_chanceRefusal (by decide +kernel) rfl (by decide) dX7_odds_2 rfl (Nat.le_of_ble_eq_true rfl) (pI_k ?_)
  have hr := hRf_r x 12 p
  refine g_istore_n F [(2, .int (J (hRf x 12 (p)))), (0, .ref (ad 7 (0))), (1, .int (J (p)))] dX7_odds_5 rfl (by decide) rfl ?_
  refine g_iload_n F dX7_odds_6 rfl 0 rfl ?_
  refine g_if_eq 12 F dX7_odds_7 (by omega) rfl (fun c_1 => ?_) (fun c_1 => ?_)
  · skip
    have hq := hRf_0 c_1
    refine g_lconst F dX7_odds_12 1 (by decide) ?_
    refine g_lstore_n F [(3, .long (Lg (1))), (2, .int (J (hRf x 12 (p)))), (0, .ref (ad 7 (0))), (1, .int (J (p)))] dX7_odds_13 rfl (by decide) rfl ?_
    refine g_lconst F dX7_odds_14 1 (by decide) ?_
    refine g_lstore F [(5, .long (Lg (1))), (3, .long (Lg (1))), (2, .int (J (hRf x 12 (p)))), (0, .ref (ad 7 (0))), (1, .int (J (p)))] dX7_odds_15 (by decide) rfl ?_
    refine g_iconst F dX7_odds_17 (0) (by decide) ?_
    refine g_istore F [(7, .int (J (0))), (5, .long (Lg (1))), (3, .long (Lg (1))), (2, .int (J (hRf x 12 (p)))), (0, .ref (ad 7 (0))), (1, .int (J (p)))] dX7_odds_18 (by decide) rfl ?_
    have L20 : ∀ (N : Nat) (a : Int) (b : Int) (j : Int), 0 ≤ j ∧ j ≤ x 10 0 0 → a = pdZ (fun i => if mbU x i then ccU x i p else 1) j → b = pdZ (fun i => if mbU x i then 12 else 1) j → (x 10 0 0 - j).toNat < N → gW Θ l D ad 9 20 [(0, .ref (ad 7 (0))), (1, .int (J (p))), (3, .long (Lg (a))), (5, .long (Lg (b))), (7, .int (J (j)))] [] x y := by
      intro N
      induction N with
      | zero => intro a b j hj ha hb hFu; omega
      | succ N ih20 =>
        intro a b j hj ha hb hFu
        refine g_iload F dX7_odds_20 4 rfl ?_
        refine g_aload_n F dX7_odds_22 rfl 0 rfl ?_
        refine gg_Day_court F fk_X7_28 dX7_odds_23 ?_
        refine ggN_Court_size F fk_X7_121 dX7_odds_26 ?_
        refine g_icmp_ge 84 F dX7_odds_29 (by omega) (by omega) rfl (fun c_2 => ?_) (fun c_2 => ?_)
        · skip
          have ra := pdZ_r (f := fun i => if mbU x i then ccU x i p else 1) (n := j) (by omega) (fun i => by have := ccU_r (x := x) (i := i) (p := p) (by omega); show 0 ≤ (if mbU x i then ccU x i p else 1) ∧ (if mbU x i then ccU x i p else 1) ≤ 12; split <;> omega)
          have rb := pdZ_r (f := fun i => if mbU x i then 12 else 1) (n := j) (by omega) (fun i => by show 0 ≤ (if mbU x i then (12 : Int) else 1) ∧ (if mbU x i then (12 : Int) else 1) ≤ 12; split <;> omega)
          refine g_aload_n F dX7_odds_84 rfl 0 rfl ?_
          refine g_lload_n F dX7_odds_85 rfl 2 rfl ?_
          refine g_lload F dX7_odds_86 3 rfl ?_
          refine g_callV 2 F (As := [.long (Lg (a)), .long (Lg (b))]) (st := []) (c_X7_tellFraction l D ad x y (a) (b) (by rw [ha]; omega) (by rw [hb]; omega)) (gR_7) rfl mk_X7_217 ki_X7_tellFraction kc_X7_tellFraction (by decide +kernel) rfl (by decide) dX7_odds_88 rfl (Nat.le_of_ble_eq_true rfl) (pV_k ?_)
          refine g_iconst F dX7_odds_91 (1) (by decide) ?_
          exact g_ireturn F hR dX7_odds_92 (pI_i (by unfold sOdds; (repeat' split) <;> first | rfl | (exfalso; omega)) (by unfold sOdds; first | (rw [if_pos (by omega)]; done) | (rw [if_neg (by omega), ha, hb, show j = x 10 0 0 by omega])) rfl)
        · skip
          have hm := hN.2.2.2 j (by omega) (by omega)
          refine g_aload_n F dX7_odds_32 rfl 0 rfl ?_
          refine gg_Day_court F fk_X7_28 dX7_odds_33 ?_
          refine ggN_Court_men F fk_X7_126 dX7_odds_36 ?_
          refine g_iload F dX7_odds_39 4 rfl ?_
          refine ga_32 F (by omega) dX7_odds_41 ?_
          refine g_astore F [(8, .ref (ad 3 (j))), (0, .ref (ad 7 (0))), (1, .int (J (p))), (3, .long (Lg (a))), (5, .long (Lg (b))), (7, .int (J (j)))] dX7_odds_42 (by decide) rfl ?_
          refine g_aload_n F dX7_odds_44 rfl 1 rfl ?_
          refine gg_Day_court F fk_X7_28 dX7_odds_45 ?_
          refine g_aload F dX7_odds_48 0 rfl ?_
          refine g_callV 1 F (As := [.ref (ad 3 (j))]) (st := []) (c_X0_mustBeCleared l D ad x y (j) (by omega) (by omega) (hm)) (gR_0) rfl mk_X7_241 ki_X0_mustBeCleared kc_X0_mustBeCleared (by decide +kernel) rfl (by decide) dX7_odds_50 rfl (Nat.le_of_ble_eq_true rfl) (pB_k ?_)
          refine g_ifb_eq 78 F dX7_odds_53 rfl (fun c_3 => ?_) (fun c_3 => ?_)
          · skip
            refine g_iinc F [(7, .int (J (j + 1))), (8, .ref (ad 3 (j))), (0, .ref (ad 7 (0))), (1, .int (J (p))), (3, .long (Lg (a))), (5, .long (Lg (b)))] 5 rfl dX7_odds_78 (by decide) rfl ?_
            refine g_goto F 20 dX7_odds_81 rfl ?_
            refine g_sub [2, 3, 4, 5, 0] (lv' := [(0, .ref (ad 7 (0))), (1, .int (J (p))), (3, .long (Lg (a))), (5, .long (Lg (b))), (7, .int (J (j + 1)))]) rfl ?_
            exact ih20 (a) (b) (j + 1) (by omega) (by rw [pdZ_s _ (by omega), ← ha]; first | (rw [if_pos (by assumption)]; done) | (rw [if_neg (by assumption), Int.mul_one])) (by rw [pdZ_s _ (by omega), ← hb]; first | (rw [if_pos (by assumption)]; done) | (rw [if_neg (by assumption), Int.mul_one])) (by omega)
          · skip
            refine g_lload_n F dX7_odds_56 rfl 3 rfl ?_
            refine g_aload_n F dX7_odds_57 rfl 1 rfl ?_
            refine gg_Day_court F fk_X7_28 dX7_odds_58 ?_
            refine g_aload F dX7_odds_61 0 rfl ?_
            refine g_iload_n F dX7_odds_63 rfl 2 rfl ?_
            refine g_callV 2 F (As := [.ref (ad 3 (j)), .int (J (p))]) (st := [.long (Lg (a))]) (c_X0_cleanChances l D ad x y (j) (p) (by omega) (by omega) (hm) (by omega)) (gR_0) rfl mk_X7_285 ki_X0_cleanChances kc_X0_cleanChances (by decide +kernel) rfl (by decide) dX7_odds_64 rfl (Nat.le_of_ble_eq_true rfl) (pI_k ?_)
            have hcc := ccU_r (x := x) (i := j) (p := p) (by omega)
            refine g_i2l F dX7_odds_67 (by omega) ?_
            refine g_lmul F dX7_odds_68 ?_
            refine g_lstore_n F [(3, .long (Lg ((a) * (ccU x (j) (p))))), (8, .ref (ad 3 (j))), (0, .ref (ad 7 (0))), (1, .int (J (p))), (5, .long (Lg (b))), (7, .int (J (j)))] dX7_odds_69 rfl (by decide) rfl ?_
            refine g_lload F dX7_odds_70 4 rfl ?_
            refine g_ldc2 F ck_X7_288 dX7_odds_72 (12) (by decide) ?_
            refine g_lmul F dX7_odds_75 ?_
            refine g_lstore F [(5, .long (Lg ((b) * (12)))), (3, .long (Lg ((a) * (ccU x (j) (p))))), (8, .ref (ad 3 (j))), (0, .ref (ad 7 (0))), (1, .int (J (p))), (7, .int (J (j)))] dX7_odds_76 (by decide) rfl ?_
            refine g_iinc F [(7, .int (J (j + 1))), (5, .long (Lg ((b) * (12)))), (3, .long (Lg ((a) * (ccU x (j) (p))))), (8, .ref (ad 3 (j))), (0, .ref (ad 7 (0))), (1, .int (J (p)))] 5 rfl dX7_odds_78 (by decide) rfl ?_
            refine g_goto F 20 dX7_odds_81 rfl ?_
            refine g_sub [4, 5, 2, 1, 0] (lv' := [(0, .ref (ad 7 (0))), (1, .int (J (p))), (3, .long (Lg ((a) * (ccU x (j) (p))))), (5, .long (Lg ((b) * (12)))), (7, .int (J (j + 1)))]) rfl ?_
            exact ih20 ((a) * (ccU x (j) (p))) ((b) * (12)) (j + 1) (by omega) (by rw [pdZ_s _ (by omega), ← ha]; first | (rw [if_pos (by assumption)]; done) | (rw [if_neg (by assumption), Int.mul_one])) (by rw [pdZ_s _ (by omega), ← hb]; first | (rw [if_pos (by assumption)]; done) | (rw [if_neg (by assumption), Int.mul_one])) (by omega)
    refine g_sub [4, 5, 2, 1, 0] (lv' := [(0, .ref (ad 7 (0))), (1, .int (J (p))), (3, .long (Lg (1))), (5, .long (Lg (1))), (7, .int (J (0)))]) rfl ?_
    exact L20 _ (1) (1) (0) (by omega) (rfl) (rfl) (Nat.lt_succ_self _)
  · skip
    refine g_iload_n F dX7_odds_10 rfl 0 rfl ?_
    exact g_ireturn F hR dX7_odds_11 (pI_i (by unfold sOdds; (repeat' split) <;> first | rfl | (exfalso; omega)) (by unfold sOdds; first | (rw [if_pos (by omega)]; done) | (rw [if_neg (by omega), ha, hb, show j = x 10 0 0 by omega])) rfl)

set_option maxRecDepth 20000 in
theorem c_X7_mid (l : Launch) (D : gD) (ad : gA) (x : gX) (y : gY) (p : Int) (hp : i32 p) (hV : INV x) : gC l D ad 4 yX7_mid cX7_mid 7 (some .int) [.ref (ad 7 (0)), .int (J (p))] x y (pI ((sMid x p).1) ((sMid x p).2) (y)) := by
  refine g_met RX7 rfl (by decide +kernel) [(0, .ref (ad 7 (0))), (1, .int (J (p)))] rfl (Nat.le_of_ble_eq_true rfl) (fun Θ F hR => ?_)
  obtain ⟨hN, hRW, hDD, hCU, hMS⟩ := hV
  refine g_aload_n F dX7_mid_0 rfl 0 rfl ?_
  refine g_iload_n F dX7_mid_1 rfl 1 rfl ?_
  refine g_callV 1 F (As := [.int (J (p))]) (st := []) (c_X7_chanceRefusal l D ad x y (p) (by omega) (by omega)) (gR_7) rfl mk_X7_282 ki_X7_chanceRefusal kc_X7_chanceRefusal (by decide +kernel) rfl (by decide) dX7_mid_2 rfl (Nat.le_of_ble_eq_true rfl) (pI_k ?_)
  have hr := hRf_r x 12 p
  refine g_istore_n F [(2, .int (J (hRf x 12 (p)))), (0, .ref (ad 7 (0))), (1, .int (J (p)))] dX7_mid_5 rfl (by decide) rfl ?_
  refine g_iload_n F dX7_mid_6 rfl 0 rfl ?_
  refine g_if_eq 12 F dX7_mid_7 (by omega) rfl (fun c_1 => ?_) (fun c_1 => ?_)
  · skip
    have hq := hRf_0 c_1
    refine g_lconst F dX7_mid_12 0 (by decide) ?_
    refine g_lstore_n F [(3, .long (Lg (0))), (2, .int (J (hRf x 12 (p)))), (0, .ref (ad 7 (0))), (1, .int (J (p)))] dX7_mid_13 rfl (by decide) rfl ?_
    refine g_iconst F dX7_mid_14 (0) (by decide) ?_
    refine g_istore F [(5, .int (J (0))), (3, .long (Lg (0))), (2, .int (J (hRf x 12 (p)))), (0, .ref (ad 7 (0))), (1, .int (J (p)))] dX7_mid_15 (by decide) rfl ?_
    have L17 : ∀ (N : Nat) (a : Int) (j : Int), 0 ≤ j ∧ j ≤ x 10 0 0 → a = sumZ (fun i => if x 6 i 0 = -9 ∧ cU x i (x 15 0 0) then ccU x i p else 0) j → (x 10 0 0 - j).toNat < N → gW Θ l D ad 7 17 [(0, .ref (ad 7 (0))), (1, .int (J (p))), (3, .long (Lg (a))), (5, .int (J (j)))] [] x y := by
      intro N
      induction N with
      | zero => intro a j hj ha hFu; omega
      | succ N ih17 =>
        intro a j hj ha hFu
        refine g_iload F dX7_mid_17 3 rfl ?_
        refine g_aload_n F dX7_mid_19 rfl 0 rfl ?_
        refine gg_Day_court F fk_X7_28 dX7_mid_20 ?_
        refine ggN_Court_size F fk_X7_121 dX7_mid_23 ?_
        refine g_icmp_ge 84 F dX7_mid_26 (by omega) (by omega) rfl (fun c_2 => ?_) (fun c_2 => ?_)
        · skip
          have ra : 0 * j ≤ sumZ (fun i => if x 6 i 0 = -9 ∧ cU x i (x 15 0 0) then ccU x i p else 0) j ∧ sumZ (fun i => if x 6 i 0 = -9 ∧ cU x i (x 15 0 0) then ccU x i p else 0) j ≤ 12 * j := sumZ_range (by omega) (fun i i0 i1 => by have := ccU_r (x := x) (i := i) (p := p) (by omega); show 0 ≤ (if x 6 i 0 = -9 ∧ cU x i (x 15 0 0) then ccU x i p else 0) ∧ (if x 6 i 0 = -9 ∧ cU x i (x 15 0 0) then ccU x i p else 0) ≤ 12; split <;> omega)
          refine g_aload_n F dX7_mid_84 rfl 0 rfl ?_
          refine g_lload_n F dX7_mid_85 rfl 2 rfl ?_
          refine g_ldc2 F ck_X7_288 dX7_mid_86 (12) (by decide) ?_
          refine g_callV 2 F (As := [.long (Lg (a)), .long (Lg (12))]) (st := []) (c_X7_tellFraction l D ad x y (a) (12) (by rw [ha]; omega) (by omega)) (gR_7) rfl mk_X7_217 ki_X7_tellFraction kc_X7_tellFraction (by decide +kernel) rfl (by decide) dX7_mid_89 rfl (Nat.le_of_ble_eq_true rfl) (pV_k ?_)
          refine g_iconst F dX7_mid_92 (1) (by decide) ?_
          exact g_ireturn F hR dX7_mid_93 (pI_i (by unfold sMid; (repeat' split) <;> first | rfl | (exfalso; omega)) (by unfold sMid; first | (rw [if_pos (by omega)]; done) | (rw [if_neg (by omega), ha, show j = x 10 0 0 by omega])) rfl)
        · skip
          have hm := hN.2.2.2 j (by omega) (by omega)
          refine g_aload_n F dX7_mid_29 rfl 0 rfl ?_
          refine gg_Day_court F fk_X7_28 dX7_mid_30 ?_
          refine ggN_Court_men F fk_X7_126 dX7_mid_33 ?_
          refine g_iload F dX7_mid_36 3 rfl ?_
          refine ga_32 F (by omega) dX7_mid_38 ?_
          refine g_astore F [(6, .ref (ad 3 (j))), (0, .ref (ad 7 (0))), (1, .int (J (p))), (3, .long (Lg (a))), (5, .int (J (j)))] dX7_mid_39 (by decide) rfl ?_
          refine g_aload F dX7_mid_41 0 rfl ?_
          refine g_callV 0 F (As := []) (st := []) (c_X3_isTried l D ad x y (j) (by omega) (hm)) (gR_3 (by omega)) rfl mk_X7_180 ki_X3_isTried kc_X3_isTried (by decide +kernel) rfl (by decide) dX7_mid_43 rfl (Nat.le_of_ble_eq_true rfl) (pB_k ?_)
          refine g_ifb_ne 78 F dX7_mid_46 rfl (fun c_3 => ?_) (fun c_3 => ?_)
          · skip
            refine g_iinc F [(5, .int (J (j + 1))), (6, .ref (ad 3 (j))), (0, .ref (ad 7 (0))), (1, .int (J (p))), (3, .long (Lg (a)))] 4 rfl dX7_mid_78 (by decide) rfl ?_
            refine g_goto F 17 dX7_mid_81 rfl ?_
            refine g_sub [2, 3, 4, 0] (lv' := [(0, .ref (ad 7 (0))), (1, .int (J (p))), (3, .long (Lg (a))), (5, .int (J (j + 1)))]) rfl ?_
            exact ih17 (a) (j + 1) (by omega) (by rw [sumZ_s _ (by omega), ← ha]; (repeat' split) <;> first | omega | contradiction) (by omega)
          · skip
            refine g_aload F dX7_mid_49 0 rfl ?_
            refine g_aload_n F dX7_mid_51 rfl 1 rfl ?_
            refine gg_Day_court F fk_X7_28 dX7_mid_52 ?_
            refine ggN_Court_heat F fk_X7_151 dX7_mid_55 ?_
            refine g_callV 1 F (As := [.int (J (x 15 (0) (0)))]) (st := []) (c_X3_appears l D ad x y (j) (x 15 (0) (0)) (by omega) (hm) (by omega)) (gR_3 (by omega)) rfl mk_X7_290 ki_X3_appears kc_X3_appears (by decide +kernel) rfl (by decide) dX7_mid_58 rfl (Nat.le_of_ble_eq_true rfl) (pB_k ?_)
            refine g_ifb_eq 78 F dX7_mid_61 rfl (fun c_4 => ?_) (fun c_4 => ?_)
            · skip
              refine g_iinc F [(5, .int (J (j + 1))), (6, .ref (ad 3 (j))), (0, .ref (ad 7 (0))), (1, .int (J (p))), (3, .long (Lg (a)))] 4 rfl dX7_mid_78 (by decide) rfl ?_
              refine g_goto F 17 dX7_mid_81 rfl ?_
              refine g_sub [2, 3, 4, 0] (lv' := [(0, .ref (ad 7 (0))), (1, .int (J (p))), (3, .long (Lg (a))), (5, .int (J (j + 1)))]) rfl ?_
              exact ih17 (a) (j + 1) (by omega) (by rw [sumZ_s _ (by omega), ← ha]; (repeat' split) <;> first | omega | contradiction) (by omega)
            · skip
              refine g_lload_n F dX7_mid_64 rfl 3 rfl ?_
              refine g_aload_n F dX7_mid_65 rfl 1 rfl ?_
              refine gg_Day_court F fk_X7_28 dX7_mid_66 ?_
              refine g_aload F dX7_mid_69 0 rfl ?_
              refine g_iload_n F dX7_mid_71 rfl 2 rfl ?_
              refine g_callV 2 F (As := [.ref (ad 3 (j)), .int (J (p))]) (st := [.long (Lg (a))]) (c_X0_cleanChances l D ad x y (j) (p) (by omega) (by omega) (hm) (by omega)) (gR_0) rfl mk_X7_285 ki_X0_cleanChances kc_X0_cleanChances (by decide +kernel) rfl (by decide) dX7_mid_72 rfl (Nat.le_of_ble_eq_true rfl) (pI_k ?_)
              have hcc := ccU_r (x := x) (i := j) (p := p) (by omega)
              refine g_i2l F dX7_mid_75 (by omega) ?_
              refine g_ladd F dX7_mid_76 ?_
              refine g_lstore_n F [(3, .long (Lg ((a) + (ccU x (j) (p))))), (6, .ref (ad 3 (j))), (0, .ref (ad 7 (0))), (1, .int (J (p))), (5, .int (J (j)))] dX7_mid_77 rfl (by decide) rfl ?_
              refine g_iinc F [(5, .int (J (j + 1))), (3, .long (Lg ((a) + (ccU x (j) (p))))), (6, .ref (ad 3 (j))), (0, .ref (ad 7 (0))), (1, .int (J (p)))] 4 rfl dX7_mid_78 (by decide) rfl ?_
              refine g_goto F 17 dX7_mid_81 rfl ?_
              refine g_sub [3, 4, 1, 0] (lv' := [(0, .ref (ad 7 (0))), (1, .int (J (p))), (3, .long (Lg ((a) + (ccU x (j) (p))))), (5, .int (J (j + 1)))]) rfl ?_
              exact ih17 ((a) + (ccU x (j) (p))) (j + 1) (by omega) (by rw [sumZ_s _ (by omega), ← ha]; (repeat' split) <;> first | omega | contradiction) (by omega)
    refine g_sub [3, 4, 1, 0] (lv' := [(0, .ref (ad 7 (0))), (1, .int (J (p))), (3, .long (Lg (0))), (5, .int (J (0)))]) rfl ?_
    exact L17 _ (0) (0) (by omega) (rfl) (Nat.lt_succ_self _)
  · skip
    refine g_iload_n F dX7_mid_10 rfl 0 rfl ?_
    exact g_ireturn F hR dX7_mid_11 (pI_i (by unfold sMid; (repeat' split) <;> first | rfl | (exfalso; omega)) (by unfold sMid; first | (rw [if_pos (by omega)]; done) | (rw [if_neg (by omega), ha, show j = x 10 0 0 by omega])) rfl)

set_option maxRecDepth 20000 in
theorem c_X7_least (l : Launch) (D : gD) (ad : gA) (x : gX) (y : gY)  (hV : INV x) : gC l D ad 4 yX7_least cX7_least 6 (some .int) [.ref (ad 7 (0))] x y (pI ((sLeast x).1) ((sLeast x).2) (y)) := by
  refine g_met RX7 rfl (by decide +kernel) [(0, .ref (ad 7 (0)))] rfl (Nat.le_of_ble_eq_true rfl) (fun Θ F hR => ?_)
  obtain ⟨hN, hRW, hDD, hCU, hMS⟩ := hV
  refine g_aload_n F dX7_least_0 rfl 0 rfl ?_
  refine gg_Day_court F fk_X7_28 dX7_least_1 ?_
  refine ggN_Court_size F fk_X7_121 dX7_least_4 ?_
  refine g_if_ne 13 F dX7_least_7 (by omega) rfl (fun c_1 => ?_) (fun c_1 => ?_)
  · skip
    refine g_iconst F dX7_least_13 (0) (by decide) ?_
    refine g_istore_n F [(1, .int (J (0))), (0, .ref (ad 7 (0)))] dX7_least_14 rfl (by decide) rfl ?_
    refine g_iconst F dX7_least_15 (0) (by decide) ?_
    refine g_istore_n F [(2, .int (J (0))), (1, .int (J (0))), (0, .ref (ad 7 (0)))] dX7_least_16 rfl (by decide) rfl ?_
    refine g_iconst F dX7_least_17 (0) (by decide) ?_
    refine g_istore_n F [(3, .int (J (0))), (2, .int (J (0))), (1, .int (J (0))), (0, .ref (ad 7 (0)))] dX7_least_18 rfl (by decide) rfl ?_
    have L19 : ∀ (N : Nat) (a : Int) (b : Int) (j : Int), 0 ≤ j ∧ j ≤ x 10 0 0 → a = sumZ (fun i => ndU x i) j → b = sumZ (fun i => if 0 < ndU x i then 1 else 0) j → lsP x j → (x 10 0 0 - j).toNat < N → gW Θ l D ad 6 19 [(0, .ref (ad 7 (0))), (1, .int (J (a))), (2, .int (J (b))), (3, .int (J (j)))] [] x y := by
      intro N
      induction N with
      | zero => intro a b j hj ha hb hl hFu; omega
      | succ N ih19 =>
        intro a b j hj ha hb hl hFu
        refine g_iload_n F dX7_least_19 rfl 3 rfl ?_
        refine g_aload_n F dX7_least_20 rfl 0 rfl ?_
        refine gg_Day_court F fk_X7_28 dX7_least_21 ?_
        refine ggN_Court_size F fk_X7_121 dX7_least_24 ?_
        refine g_icmp_ge 107 F dX7_least_27 (by omega) (by omega) rfl (fun c_2 => ?_) (fun c_2 => ?_)
        · skip
          refine g_aload_n F dX7_least_107 rfl 0 rfl ?_
          refine g_iload_n F dX7_least_108 rfl 2 rfl ?_
          refine gp_Day_told F fk_X7_75 dX7_least_109 ?_
          refine g_iload_n F dX7_least_112 rfl 1 rfl ?_
          exact g_ireturn F hR dX7_least_113 (pI_i (by unfold sLeast; first | (rw [if_pos (by omega)]; done) | (rw [if_neg (by omega), if_pos (mm_no (j := j) (by omega) (by omega) (by rw [hnd]; (repeat' split) <;> first | omega | contradiction))]; done) | (rw [show j = x 10 0 0 by omega] at hl ha; rw [if_neg (by omega), if_neg (fun q => q hl), ha])) (by unfold sLeast; first | (rw [if_pos (by omega)]; done) | (rw [if_neg (by omega), if_pos (mm_no (j := j) (by omega) (by omega) (by rw [hnd]; (repeat' split) <;> first | omega | contradiction))]; done) | (rw [show j = x 10 0 0 by omega] at hl hb; rw [if_neg (by omega), if_neg (fun q => q hl), hb])) rfl)
        · skip
          have hm := hN.2.2.2 j (by omega) (by omega)
          have hsn := snU_r hN hm
          have hnd : ndU x j = if mbU x j then snU x j else 0 := rfl
          refine g_aload_n F dX7_least_30 rfl 0 rfl ?_
          refine gg_Day_court F fk_X7_28 dX7_least_31 ?_
          refine ggN_Court_men F fk_X7_126 dX7_least_34 ?_
          refine g_iload_n F dX7_least_37 rfl 3 rfl ?_
          refine ga_32 F (by omega) dX7_least_38 ?_
          refine g_astore F [(4, .ref (ad 3 (j))), (0, .ref (ad 7 (0))), (1, .int (J (a))), (2, .int (J (b))), (3, .int (J (j)))] dX7_least_39 (by decide) rfl ?_
          refine g_aload_n F dX7_least_41 rfl 1 rfl ?_
          refine gg_Day_court F fk_X7_28 dX7_least_42 ?_
          refine g_aload F dX7_least_45 0 rfl ?_
          refine g_callV 1 F (As := [.ref (ad 3 (j))]) (st := []) (c_X0_mustBeCleared l D ad x y (j) (by omega) (by omega) (hm)) (gR_0) rfl mk_X7_241 ki_X0_mustBeCleared kc_X0_mustBeCleared (by decide +kernel) rfl (by decide) dX7_least_47 rfl (Nat.le_of_ble_eq_true rfl) (pB_k ?_)
          refine g_ifb_eq 65 F dX7_least_50 rfl (fun c_3 => ?_) (fun c_3 => ?_)
          · skip
            refine g_iconst F dX7_least_65 (0) (by decide) ?_
            refine g_istore F [(5, .int (J (0))), (4, .ref (ad 3 (j))), (0, .ref (ad 7 (0))), (1, .int (J (a))), (2, .int (J (b))), (3, .int (J (j)))] dX7_least_66 (by decide) rfl ?_
            refine g_aload F dX7_least_68 1 rfl ?_
            refine ggN_Man_salve F (by omega) fk_X7_177 dX7_least_70 ?_
            refine g_iload F dX7_least_73 0 rfl ?_
            refine g_iadd F dX7_least_75 ?_
            refine g_iconst F dX7_least_76 (3) (by decide) ?_
            refine g_icmp_le 83 F dX7_least_77 (by omega) (by decide) rfl (fun c_4 => ?_) (fun c_4 => ?_)
            · skip
              refine g_iload_n F dX7_least_83 rfl 3 rfl ?_
              refine g_iload F dX7_least_84 0 rfl ?_
              refine g_iadd F dX7_least_86 ?_
              refine g_istore_n F [(1, .int (J ((a) + (0)))), (5, .int (J (0))), (4, .ref (ad 3 (j))), (0, .ref (ad 7 (0))), (2, .int (J (b))), (3, .int (J (j)))] dX7_least_87 rfl (by decide) rfl ?_
              refine g_iload_n F dX7_least_88 rfl 4 rfl ?_
              refine g_iload F dX7_least_89 1 rfl ?_
              refine g_if_le 98 F dX7_least_91 (by decide) rfl (fun c_5 => ?_) (fun c_5 => ?_)
              · skip
                refine g_iconst F dX7_least_98 (0) (by decide) ?_
                refine g_iadd F dX7_least_99 ?_
                refine g_istore_n F [(2, .int (J ((b) + (0)))), (1, .int (J ((a) + (0)))), (5, .int (J (0))), (4, .ref (ad 3 (j))), (0, .ref (ad 7 (0))), (3, .int (J (j)))] dX7_least_100 rfl (by decide) rfl ?_
                refine g_iinc F [(3, .int (J (j + 1))), (2, .int (J ((b) + (0)))), (1, .int (J ((a) + (0)))), (5, .int (J (0))), (4, .ref (ad 3 (j))), (0, .ref (ad 7 (0)))] 5 rfl dX7_least_101 (by decide) rfl ?_
                refine g_goto F 19 dX7_least_104 rfl ?_
                refine g_sub [5, 2, 1, 0] (lv' := [(0, .ref (ad 7 (0))), (1, .int (J ((a) + (0)))), (2, .int (J ((b) + (0)))), (3, .int (J (j + 1)))]) rfl ?_
                exact ih19 ((a) + (0)) ((b) + (0)) (j + 1) (by omega) (by rw [sumZ_s _ (by omega), ← ha]; (repeat' split) <;> first | omega | contradiction) (by rw [sumZ_s _ (by omega), ← hb]; (repeat' split) <;> first | omega | contradiction) ((mm_s (f := fun i => x 5 i 0 + ndU x i ≤ 3) (by omega)).mpr ⟨hl, by rw [hnd]; (repeat' split) <;> first | omega | contradiction⟩) (by omega)
              · skip
                refine g_iconst F dX7_least_94 (1) (by decide) ?_
                refine g_goto F 99 dX7_least_95 rfl ?_
                refine g_iadd F dX7_least_99 ?_
                refine g_istore_n F [(2, .int (J ((b) + (1)))), (1, .int (J ((a) + (0)))), (5, .int (J (0))), (4, .ref (ad 3 (j))), (0, .ref (ad 7 (0))), (3, .int (J (j)))] dX7_least_100 rfl (by decide) rfl ?_
                refine g_iinc F [(3, .int (J (j + 1))), (2, .int (J ((b) + (1)))), (1, .int (J ((a) + (0)))), (5, .int (J (0))), (4, .ref (ad 3 (j))), (0, .ref (ad 7 (0)))] 5 rfl dX7_least_101 (by decide) rfl ?_
                refine g_goto F 19 dX7_least_104 rfl ?_
                refine g_sub [5, 2, 1, 0] (lv' := [(0, .ref (ad 7 (0))), (1, .int (J ((a) + (0)))), (2, .int (J ((b) + (1)))), (3, .int (J (j + 1)))]) rfl ?_
                exact ih19 ((a) + (0)) ((b) + (1)) (j + 1) (by omega) (by rw [sumZ_s _ (by omega), ← ha]; (repeat' split) <;> first | omega | contradiction) (by rw [sumZ_s _ (by omega), ← hb]; (repeat' split) <;> first | omega | contradiction) ((mm_s (f := fun i => x 5 i 0 + ndU x i ≤ 3) (by omega)).mpr ⟨hl, by rw [hnd]; (repeat' split) <;> first | omega | contradiction⟩) (by omega)
            · skip
              refine g_bipush F dX7_least_80 (-9) (by decide) ?_
              exact g_ireturn F hR dX7_least_82 (pI_i (by unfold sLeast; first | (rw [if_pos (by omega)]; done) | (rw [if_neg (by omega), if_pos (mm_no (j := j) (by omega) (by omega) (by rw [hnd]; (repeat' split) <;> first | omega | contradiction))]; done) | (rw [show j = x 10 0 0 by omega] at hl ha; rw [if_neg (by omega), if_neg (fun q => q hl), ha])) (by unfold sLeast; first | (rw [if_pos (by omega)]; done) | (rw [if_neg (by omega), if_pos (mm_no (j := j) (by omega) (by omega) (by rw [hnd]; (repeat' split) <;> first | omega | contradiction))]; done) | (rw [show j = x 10 0 0 by omega] at hl hb; rw [if_neg (by omega), if_neg (fun q => q hl), hb])) rfl)
          · skip
            refine g_aload_n F dX7_least_53 rfl 1 rfl ?_
            refine gg_Day_court F fk_X7_28 dX7_least_54 ?_
            refine g_aload F dX7_least_57 0 rfl ?_
            refine g_callV 1 F (As := [.ref (ad 3 (j))]) (st := []) (c_X0_salveNeeded l D ad x y (j) (by omega) (by omega) (hm)) (gR_0) rfl mk_X7_245 ki_X0_salveNeeded kc_X0_salveNeeded (by decide +kernel) rfl (by decide) dX7_least_59 rfl (Nat.le_of_ble_eq_true rfl) (pI_k ?_)
            refine g_goto F 66 dX7_least_62 rfl ?_
            refine g_istore F [(5, .int (J (snU x (j)))), (4, .ref (ad 3 (j))), (0, .ref (ad 7 (0))), (1, .int (J (a))), (2, .int (J (b))), (3, .int (J (j)))] dX7_least_66 (by decide) rfl ?_
            refine g_aload F dX7_least_68 1 rfl ?_
            refine ggN_Man_salve F (by omega) fk_X7_177 dX7_least_70 ?_
            refine g_iload F dX7_least_73 0 rfl ?_
            refine g_iadd F dX7_least_75 ?_
            refine g_iconst F dX7_least_76 (3) (by decide) ?_
            refine g_icmp_le 83 F dX7_least_77 (by omega) (by decide) rfl (fun c_6 => ?_) (fun c_6 => ?_)
            · skip
              refine g_iload_n F dX7_least_83 rfl 3 rfl ?_
              refine g_iload F dX7_least_84 0 rfl ?_
              refine g_iadd F dX7_least_86 ?_
              refine g_istore_n F [(1, .int (J ((a) + (snU x (j))))), (5, .int (J (snU x (j)))), (4, .ref (ad 3 (j))), (0, .ref (ad 7 (0))), (2, .int (J (b))), (3, .int (J (j)))] dX7_least_87 rfl (by decide) rfl ?_
              refine g_iload_n F dX7_least_88 rfl 4 rfl ?_
              refine g_iload F dX7_least_89 1 rfl ?_
              refine g_if_le 98 F dX7_least_91 (by omega) rfl (fun c_7 => ?_) (fun c_7 => ?_)
              · skip
                refine g_iconst F dX7_least_98 (0) (by decide) ?_
                refine g_iadd F dX7_least_99 ?_
                refine g_istore_n F [(2, .int (J ((b) + (0)))), (1, .int (J ((a) + (snU x (j))))), (5, .int (J (snU x (j)))), (4, .ref (ad 3 (j))), (0, .ref (ad 7 (0))), (3, .int (J (j)))] dX7_least_100 rfl (by decide) rfl ?_
                refine g_iinc F [(3, .int (J (j + 1))), (2, .int (J ((b) + (0)))), (1, .int (J ((a) + (snU x (j))))), (5, .int (J (snU x (j)))), (4, .ref (ad 3 (j))), (0, .ref (ad 7 (0)))] 5 rfl dX7_least_101 (by decide) rfl ?_
                refine g_goto F 19 dX7_least_104 rfl ?_
                refine g_sub [5, 2, 1, 0] (lv' := [(0, .ref (ad 7 (0))), (1, .int (J ((a) + (snU x (j))))), (2, .int (J ((b) + (0)))), (3, .int (J (j + 1)))]) rfl ?_
                exact ih19 ((a) + (snU x (j))) ((b) + (0)) (j + 1) (by omega) (by rw [sumZ_s _ (by omega), ← ha]; (repeat' split) <;> first | omega | contradiction) (by rw [sumZ_s _ (by omega), ← hb]; (repeat' split) <;> first | omega | contradiction) ((mm_s (f := fun i => x 5 i 0 + ndU x i ≤ 3) (by omega)).mpr ⟨hl, by rw [hnd]; (repeat' split) <;> first | omega | contradiction⟩) (by omega)
              · skip
                refine g_iconst F dX7_least_94 (1) (by decide) ?_
                refine g_goto F 99 dX7_least_95 rfl ?_
                refine g_iadd F dX7_least_99 ?_
                refine g_istore_n F [(2, .int (J ((b) + (1)))), (1, .int (J ((a) + (snU x (j))))), (5, .int (J (snU x (j)))), (4, .ref (ad 3 (j))), (0, .ref (ad 7 (0))), (3, .int (J (j)))] dX7_least_100 rfl (by decide) rfl ?_
                refine g_iinc F [(3, .int (J (j + 1))), (2, .int (J ((b) + (1)))), (1, .int (J ((a) + (snU x (j))))), (5, .int (J (snU x (j)))), (4, .ref (ad 3 (j))), (0, .ref (ad 7 (0)))] 5 rfl dX7_least_101 (by decide) rfl ?_
                refine g_goto F 19 dX7_least_104 rfl ?_
                refine g_sub [5, 2, 1, 0] (lv' := [(0, .ref (ad 7 (0))), (1, .int (J ((a) + (snU x (j))))), (2, .int (J ((b) + (1)))), (3, .int (J (j + 1)))]) rfl ?_
                exact ih19 ((a) + (snU x (j))) ((b) + (1)) (j + 1) (by omega) (by rw [sumZ_s _ (by omega), ← ha]; (repeat' split) <;> first | omega | contradiction) (by rw [sumZ_s _ (by omega), ← hb]; (repeat' split) <;> first | omega | contradiction) ((mm_s (f := fun i => x 5 i 0 + ndU x i ≤ 3) (by omega)).mpr ⟨hl, by rw [hnd]; (repeat' split) <;> first | omega | contradiction⟩) (by omega)
            · skip
              refine g_bipush F dX7_least_80 (-9) (by decide) ?_
              exact g_ireturn F hR dX7_least_82 (pI_i (by unfold sLeast; first | (rw [if_pos (by omega)]; done) | (rw [if_neg (by omega), if_pos (mm_no (j := j) (by omega) (by omega) (by rw [hnd]; (repeat' split) <;> first | omega | contradiction))]; done) | (rw [show j = x 10 0 0 by omega] at hl ha; rw [if_neg (by omega), if_neg (fun q => q hl), ha])) (by unfold sLeast; first | (rw [if_pos (by omega)]; done) | (rw [if_neg (by omega), if_pos (mm_no (j := j) (by omega) (by omega) (by rw [hnd]; (repeat' split) <;> first | omega | contradiction))]; done) | (rw [show j = x 10 0 0 by omega] at hl hb; rw [if_neg (by omega), if_neg (fun q => q hl), hb])) rfl)
    refine g_sub [3, 2, 1, 0] (lv' := [(0, .ref (ad 7 (0))), (1, .int (J (0))), (2, .int (J (0))), (3, .int (J (0)))]) rfl ?_
    exact L19 _ (0) (0) (0) (by omega) (rfl) (rfl) (rfl) (Nat.lt_succ_self _)
  · skip
    refine g_bipush F dX7_least_10 (-4) (by decide) ?_
    exact g_ireturn F hR dX7_least_12 (pI_i (by unfold sLeast; first | (rw [if_pos (by omega)]; done) | (rw [if_neg (by omega), if_pos (mm_no (j := j) (by omega) (by omega) (by rw [hnd]; (repeat' split) <;> first | omega | contradiction))]; done) | (rw [show j = x 10 0 0 by omega] at hl ha; rw [if_neg (by omega), if_neg (fun q => q hl), ha])) (by unfold sLeast; first | (rw [if_pos (by omega)]; done) | (rw [if_neg (by omega), if_pos (mm_no (j := j) (by omega) (by omega) (by rw [hnd]; (repeat' split) <;> first | omega | contradiction))]; done) | (rw [show j = x 10 0 0 by omega] at hl hb; rw [if_neg (by omega), if_neg (fun q => q hl), hb])) rfl)
