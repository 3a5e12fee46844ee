/-! the class's calls: what each answers, the memory behind it -/
def RWI (x : gX) : Prop := ∀ r : Int, 0 ≤ r → r < 10 → (-1 ≤ x 17 r 0 ∧ x 17 r 0 ≤ (if r < 6 then 40 else 60)) ∧ (∀ j : Int, i32 (x 20 r j)) ∧ (6 ≤ r → ∀ j : Int, -128 ≤ x 20 r j ∧ x 20 r j ≤ 127)
def LOK (x : gX) (b n : Int) : Prop := ∀ j : Int, 0 ≤ j → j < n → wOK x (x 21 b j) (x 22 b j) ∧ (x 21 b j = 1 → repM x b j 5 (x 22 b j) 0 < 3) ∧ (x 21 b j = 2 → repM x b j 6 (x 22 b j) 0 = -9)
def DDI (x : gX) : Prop := ((0 ≤ x 16 0 0 ∧ x 16 0 0 ≤ 40) ∧ ∀ b : Int, 1 ≤ b → b < 4 → -1 ≤ x 16 b 0 ∧ x 16 b 0 ≤ 40) ∧ ∀ b : Int, 0 ≤ b → b < 4 → LOK x b (x 16 b 0)
def CUR (x : gX) : Prop := x 15 0 0 = repM x 0 (x 16 0 0) 15 0 0 ∧ ∀ i : Int, 0 ≤ i → i < x 10 0 0 → x 5 i 0 = repM x 0 (x 16 0 0) 5 i 0 ∧ x 6 i 0 = repM x 0 (x 16 0 0) 6 i 0 ∧ x 7 i 0 = repM x 0 (x 16 0 0) 7 i 0
def MSC (x : gX) : Prop := dOK x ∧ x 6 6 0 = -9 ∧ x 7 6 0 = 0
def INV (x : gX) : Prop := NOK x ∧ RWI x ∧ DDI x ∧ CUR x ∧ MSC x
theorem LOK_DOK {x : gX} {b n : Int} (h : LOK x b n) : DOK x b n := fun j h0 h1 => (h j h0 h1).1
/-- what is only used within a call -/
abbrev scr (k i : Int) : Prop := k = 23 ∨ k = 24 ∨ k = 25 ∨ (34 ≤ k ∧ k ≤ 39) ∨ (i = 6 ∧ 1 ≤ k ∧ k ≤ 5)
def xE (a b : gX) : Prop := ∀ k i j : Int, ¬ scr k i → b k i j = a k i j
theorem xE_rf (a : gX) : xE a a := fun _ _ _ _ => rfl
def fnd (x : gX) (f : Int) : gX := xU (xU x 18 0 0 f) 26 0 f (x 26 0 f + 1)
def mRf (x : gX) (n R r : Int) : Int × gX := if ¬ (0 ≤ r ∧ r < n) then (-1, x) else if x 17 R 0 = -1 then (-3, fnd x 1) else (0, x)
theorem mRf_0 {x : gX} {n R r : Int} (h : (mRf x n R r).1 = 0) : (0 ≤ r ∧ r < n) ∧ x 17 R 0 ≠ -1 ∧ (mRf x n R r).2 = x := by
  unfold mRf at h ⊢
  split at h
  · exact absurd (show (-1 : Int) = 0 from h) (by decide)
  · rename_i q
    rw [if_neg q]
    split at h
    · exact absurd (show (-3 : Int) = 0 from h) (by decide)
    · rename_i q2
      rw [if_neg q2]
      exact ⟨by omega, q2, rfl⟩
theorem mRf_i (x : gX) (n R r : Int) : -3 ≤ (mRf x n R r).1 ∧ (mRf x n R r).1 ≤ 0 := by unfold mRf; (repeat' split) <;> simp
def pRf (x : gX) (n R r i : Int) : Int × gX := if (mRf x n R r).1 ≠ 0 then mRf x n R r else if 0 ≤ i ∧ i < x 17 R 0 then (0, x) else (-3, fnd x 2)
theorem pRf_0 {x : gX} {n R r i : Int} (h : (pRf x n R r i).1 = 0) : (0 ≤ r ∧ r < n) ∧ (0 ≤ i ∧ i < x 17 R 0) ∧ (pRf x n R r i).2 = x := by
  unfold pRf at h ⊢
  split at h
  · rename_i q; exact absurd h q
  · rename_i q
    rw [if_neg q]
    split at h
    · rename_i q2
      rw [if_pos q2]
      exact ⟨(mRf_0 (x := x) (R := R) (by omega)).1, q2, rfl⟩
    · exact absurd (show (-3 : Int) = 0 from h) (by decide)
theorem pRf_i (x : gX) (n R r i : Int) : -3 ≤ (pRf x n R r i).1 ∧ (pRf x n R r i).1 ≤ 0 := by
  have := mRf_i x n R r
  unfold pRf; (repeat' split) <;> first | omega | simp
def lRf (x : gX) (n R m r k v : Int) : Int × gX := if ¬ (0 ≤ r ∧ r < n) ∨ m < k then (-1, x) else if k < 0 then (-3, fnd x 5) else (k, xU (flM x R v k) 17 R 0 k)
def sLay (x : gX) (r i v : Int) : Int × gX := if (pRf x 6 r r i).1 ≠ 0 then pRf x 6 r r i else (1, xU (xU x 19 0 0 (x 20 r i)) 20 r i v)
def sAt (x : gX) (r i : Int) : Int × gX := if (pRf x 6 r r i).1 ≠ 0 then pRf x 6 r r i else (1, xU x 19 0 0 (x 20 r i))
def sTear (x : gX) (r : Int) : Int × gX := if (mRf x 6 r r).1 ≠ 0 then mRf x 6 r r else (1, xU x 17 r 0 (-1))
abbrev stP (x : gX) (r f n : Int) : Prop := 0 ≤ f ∧ f ≤ x 17 r 0 ∧ n ≤ x 17 r 0 - f
def sCopy (x : gX) (r i t j n : Int) : Int × gX := if ¬ ((0 ≤ r ∧ r < 6) ∧ (0 ≤ t ∧ t < 6)) then (-1, x) else if n < 0 then (-3, fnd x 5) else if x 17 r 0 = -1 ∨ x 17 t 0 = -1 then (-3, fnd x 1) else if ¬ (stP x r i n ∧ stP x t j n) then (-3, fnd x 2) else (1, xC x 20 t j n (fun q => x 20 r (i + q)))
def sMean (x : gX) (r : Int) : Int × gX := if (mRf x 6 r r).1 ≠ 0 then mRf x 6 r r else if x 17 r 0 = 0 then (-3, fnd x 4) else (1, xU x 19 0 0 ((sumZ (fun q => x 20 r q) (x 17 r 0)).tdiv (x 17 r 0)))
def sPut (x : gX) (t i v : Int) : Int × gX := if (pRf x 4 (6 + t) t i).1 ≠ 0 then pRf x 4 (6 + t) t i else (1000 + x 20 (6 + t) i, xU x 20 (6 + t) i (cb v))
set_option maxRecDepth 20000 in
theorem c_X7_found (l : Launch) (D : gD) (ad : gA) (x : gX) (y : gY) (f : Int) (hf : 0 ≤ f ∧ f ≤ 5) : gC l D ad 0 yX7_found cX7_found 2 (some .int) [.ref (ad 7 (0)), .int (J (f))] x y (pI (-3) (fnd x f) (y)) := by
  refine g_met RX7 rfl (by decide +kernel) [(0, .ref (ad 7 (0))), (1, .int (J (f)))] rfl (Nat.le_of_ble_eq_true rfl) (fun Θ F hR => ?_)
  refine g_aload_n F dX7_found_0 rfl 0 rfl ?_
  refine g_iload_n F dX7_found_1 rfl 1 rfl ?_
  refine gp_Day_latestFinding F fk_X7_327 dX7_found_2 ?_
  refine g_aload_n F dX7_found_5 rfl 0 rfl ?_
  refine gg_Day_findingCounts F fk_X7_52 dX7_found_6 ?_
  refine g_iload_n F dX7_found_9 rfl 1 rfl ?_
  refine g_dup2 F dX7_found_10 rfl rfl ?_
  refine ga_26 F (by omega) dX7_found_11 ?_
  refine g_topi (b := x 26 (0) (f)) (by simp [xU]) ?_
  refine g_iconst F dX7_found_12 (1) (by decide) ?_
  refine g_iadd F dX7_found_13 ?_
  refine gs_26 F (by omega) dX7_found_14 ?_
  refine g_bipush F dX7_found_15 (-3) (by decide) ?_
  exact g_ireturn F hR dX7_found_17 (pI_i (by rfl) (by rfl) rfl)

set_option maxRecDepth 20000 in
theorem c_X7_isOneOf_R (l : Launch) (D : gD) (ad : gA) (x : gX) (y : gY) (r : Int) (hr : i32 r) : gC l D ad 0 yX7_isOneOf cX7_isOneOf 2 (some .boolean) [.ref (ad 30 (0)), .int (J (r))] x y (pB (0 ≤ r ∧ r < 6) (x) (y)) := by
  refine g_met RX7 rfl (by decide +kernel) [(0, .ref (ad 30 (0))), (1, .int (J (r)))] rfl (Nat.le_of_ble_eq_true rfl) (fun Θ F hR => ?_)
  refine g_iload_n F dX7_isOneOf_0 rfl 1 rfl ?_
  refine g_if_lt 14 F dX7_isOneOf_1 (by omega) rfl (fun c_1 => ?_) (fun c_1 => ?_)
  · skip
    refine g_iconst F dX7_isOneOf_14 (0) (by decide) ?_
    exact g_zreturn F hR dX7_isOneOf_15 (by omega) (pB_i (by split <;> omega) rfl rfl)
  · skip
    refine g_iload_n F dX7_isOneOf_4 rfl 1 rfl ?_
    refine g_aload_n F dX7_isOneOf_5 rfl 0 rfl ?_
    refine gl_30 F dX7_isOneOf_6 ?_
    refine g_icmp_ge 14 F dX7_isOneOf_7 (by omega) (by decide) rfl (fun c_2 => ?_) (fun c_2 => ?_)
    · skip
      refine g_iconst F dX7_isOneOf_14 (0) (by decide) ?_
      exact g_zreturn F hR dX7_isOneOf_15 (by omega) (pB_i (by split <;> omega) rfl rfl)
    · skip
      refine g_iconst F dX7_isOneOf_10 (1) (by decide) ?_
      refine g_goto F 15 dX7_isOneOf_11 rfl ?_
      exact g_zreturn F hR dX7_isOneOf_15 (by omega) (pB_i (by split <;> omega) rfl rfl)

set_option maxRecDepth 20000 in
theorem c_X7_missingRefusal_R (l : Launch) (D : gD) (ad : gA) (x : gX) (y : gY) (r : Int) (hr : i32 r) (hRW : RWI x) : gC l D ad 1 yX7_missingRefusal cX7_missingRefusal 3 (some .int) [.ref (ad 7 (0)), .ref (ad 30 (0)), .int (J (r))] x y (pI ((mRf x 6 r r).1) ((mRf x 6 r r).2) (y)) := by
  refine g_met RX7 rfl (by decide +kernel) [(0, .ref (ad 7 (0))), (1, .ref (ad 30 (0))), (2, .int (J (r)))] rfl (Nat.le_of_ble_eq_true rfl) (fun Θ F hR => ?_)
  refine g_aload_n F dX7_missingRefusal_0 rfl 1 rfl ?_
  refine g_iload_n F dX7_missingRefusal_1 rfl 2 rfl ?_
  refine g_callS 2 F (As := [.ref (ad 30 (0)), .int (J (r))]) (st := []) (c_X7_isOneOf_R l D ad x y (r) (by omega)) rfl mk_X7_86 ki_X7_isOneOf kc_X7_isOneOf (by decide +kernel) rfl (by decide) dX7_missingRefusal_2 rfl (Nat.le_of_ble_eq_true rfl) (pB_k ?_)
  refine g_ifb_ne 10 F dX7_missingRefusal_5 rfl (fun c_1 => ?_) (fun c_1 => ?_)
  · skip
    have hw := hRW (r) (by omega) (by omega)
    have hw2 : -1 ≤ x 17 (r) 0 ∧ x 17 (r) 0 ≤ 60 := by have := hw.1; split at this <;> omega
    refine g_aload_n F dX7_missingRefusal_10 rfl 1 rfl ?_
    refine g_iload_n F dX7_missingRefusal_11 rfl 2 rfl ?_
    refine ga_30 F (by omega) dX7_missingRefusal_12 ?_
    refine g_callV 0 F (As := []) (st := []) (c_X6_isMissing l D ad x y (r) (by omega) (hw.1)) (gR_6 (by omega)) rfl mk_X7_94 ki_X6_isMissing kc_X6_isMissing (by decide +kernel) rfl (by decide) dX7_missingRefusal_13 rfl (Nat.le_of_ble_eq_true rfl) (pB_k ?_)
    refine g_ifb_eq 27 F dX7_missingRefusal_16 rfl (fun c_2 => ?_) (fun c_2 => ?_)
    · skip
      refine g_iconst F dX7_missingRefusal_27 (0) (by decide) ?_
      exact g_ireturn F hR dX7_missingRefusal_28 (pI_i (by unfold mRf; (repeat' split) <;> first | rfl | (exfalso; omega)) (by unfold mRf; (repeat' split) <;> first | rfl | (exfalso; omega)) rfl)
    · skip
      refine g_aload_n F dX7_missingRefusal_19 rfl 0 rfl ?_
      refine g_iconst F dX7_missingRefusal_20 (1) (by decide) ?_
      refine g_callV 1 F (As := [.int (J (1))]) (st := []) (c_X7_found l D ad x y (1) (by omega)) (gR_7) rfl mk_X7_90 ki_X7_found kc_X7_found (by decide +kernel) rfl (by decide) dX7_missingRefusal_21 rfl (Nat.le_of_ble_eq_true rfl) (pI_k ?_)
      refine g_goto F 28 dX7_missingRefusal_24 rfl ?_
      exact g_ireturn F hR dX7_missingRefusal_28 (pI_i (by unfold mRf; (repeat' split) <;> first | rfl | (exfalso; omega)) (by unfold mRf; (repeat' split) <;> first | rfl | (exfalso; omega)) rfl)
  · skip
    refine g_iconst F dX7_missingRefusal_8 (-1) (by decide) ?_
    exact g_ireturn F hR dX7_missingRefusal_9 (pI_i (by unfold mRf; (repeat' split) <;> first | rfl | (exfalso; omega)) (by unfold mRf; (repeat' split) <;> first | rfl | (exfalso; omega)) rfl)

set_option maxRecDepth 20000 in
theorem c_X7_placeRefusal_R (l : Launch) (D : gD) (ad : gA) (x : gX) (y : gY) (r i : Int) (hr : i32 r) (hi : i32 i) (hRW : RWI x) : gC l D ad 2 yX7_placeRefusal cX7_placeRefusal 5 (some .int) [.ref (ad 7 (0)), .ref (ad 30 (0)), .int (J (r)), .int (J (i))] x y (pI ((pRf x 6 r r i).1) ((pRf x 6 r r i).2) (y)) := by
  refine g_met RX7 rfl (by decide +kernel) [(0, .ref (ad 7 (0))), (1, .ref (ad 30 (0))), (2, .int (J (r))), (3, .int (J (i)))] rfl (Nat.le_of_ble_eq_true rfl) (fun Θ F hR => ?_)
  refine g_aload_n F dX7_placeRefusal_0 rfl 0 rfl ?_
  refine g_aload_n F dX7_placeRefusal_1 rfl 1 rfl ?_
  refine g_iload_n F dX7_placeRefusal_2 rfl 2 rfl ?_
  refine g_callV 2 F (As := [.ref (ad 30 (0)), .int (J (r))]) (st := []) (c_X7_missingRefusal_R l D ad x y (r) (by omega) (hRW)) (gR_7) rfl mk_X7_79 ki_X7_missingRefusal kc_X7_missingRefusal (by decide +kernel) rfl (by decide) dX7_placeRefusal_3 rfl (Nat.le_of_ble_eq_true rfl) (pI_k ?_)
  have hi0 := mRf_i x 6 r r
  refine g_istore F [(4, .int (J ((mRf x 6 (r) (r)).1))), (0, .ref (ad 7 (0))), (1, .ref (ad 30 (0))), (2, .int (J (r))), (3, .int (J (i)))] dX7_placeRefusal_6 (by decide) rfl ?_
  refine g_iload F dX7_placeRefusal_8 0 rfl ?_
  refine g_if_eq 16 F dX7_placeRefusal_10 (by omega) rfl (fun c_1 => ?_) (fun c_1 => ?_)
  · skip
    have hq := mRf_0 c_1
    have hw := hRW (r) (by omega) (by omega)
    have hw2 : -1 ≤ x 17 (r) 0 ∧ x 17 (r) 0 ≤ 60 := by have := hw.1; split at this <;> omega
    refine g_mx (X := x) (hq.2.2) ?_
    refine g_iload_n F dX7_placeRefusal_16 rfl 4 rfl ?_
    refine g_if_lt 34 F dX7_placeRefusal_17 (by omega) rfl (fun c_2 => ?_) (fun c_2 => ?_)
    · skip
      refine g_aload_n F dX7_placeRefusal_34 rfl 1 rfl ?_
      refine g_iconst F dX7_placeRefusal_35 (2) (by decide) ?_
      refine g_callV 1 F (As := [.int (J (2))]) (st := []) (c_X7_found l D ad x y (2) (by omega)) (gR_7) rfl mk_X7_90 ki_X7_found kc_X7_found (by decide +kernel) rfl (by decide) dX7_placeRefusal_36 rfl (Nat.le_of_ble_eq_true rfl) (pI_k ?_)
      exact g_ireturn F hR dX7_placeRefusal_39 (pI_i (by unfold pRf; (repeat' split) <;> first | rfl | (exfalso; omega)) (by unfold pRf; (repeat' split) <;> first | rfl | (exfalso; omega)) rfl)
    · skip
      refine g_iload_n F dX7_placeRefusal_20 rfl 4 rfl ?_
      refine g_aload_n F dX7_placeRefusal_21 rfl 2 rfl ?_
      refine g_iload_n F dX7_placeRefusal_22 rfl 3 rfl ?_
      refine ga_30 F (by omega) dX7_placeRefusal_23 ?_
      refine ggN_Row_size F (by omega) fk_X7_83 dX7_placeRefusal_24 ?_
      refine g_icmp_ge 34 F dX7_placeRefusal_27 (by omega) (by omega) rfl (fun c_3 => ?_) (fun c_3 => ?_)
      · skip
        refine g_aload_n F dX7_placeRefusal_34 rfl 1 rfl ?_
        refine g_iconst F dX7_placeRefusal_35 (2) (by decide) ?_
        refine g_callV 1 F (As := [.int (J (2))]) (st := []) (c_X7_found l D ad x y (2) (by omega)) (gR_7) rfl mk_X7_90 ki_X7_found kc_X7_found (by decide +kernel) rfl (by decide) dX7_placeRefusal_36 rfl (Nat.le_of_ble_eq_true rfl) (pI_k ?_)
        exact g_ireturn F hR dX7_placeRefusal_39 (pI_i (by unfold pRf; (repeat' split) <;> first | rfl | (exfalso; omega)) (by unfold pRf; (repeat' split) <;> first | rfl | (exfalso; omega)) rfl)
      · skip
        refine g_iconst F dX7_placeRefusal_30 (0) (by decide) ?_
        refine g_goto F 39 dX7_placeRefusal_31 rfl ?_
        exact g_ireturn F hR dX7_placeRefusal_39 (pI_i (by unfold pRf; (repeat' split) <;> first | rfl | (exfalso; omega)) (by unfold pRf; (repeat' split) <;> first | rfl | (exfalso; omega)) rfl)
  · skip
    refine g_iload F dX7_placeRefusal_13 0 rfl ?_
    exact g_ireturn F hR dX7_placeRefusal_15 (pI_i (by unfold pRf; (repeat' split) <;> first | rfl | (exfalso; omega)) (by unfold pRf; (repeat' split) <;> first | rfl | (exfalso; omega)) rfl)

set_option maxRecDepth 20000 in
theorem c_X7_laidOut_R (l : Launch) (D : gD) (ad : gA) (x : gX) (y : gY) (r k v : Int) (hr : i32 r) (hk : i32 k) (hRW : RWI x) : gC l D ad 1 yX7_laidOut cX7_laidOut 5 (some .int) [.ref (ad 7 (0)), .ref (ad 30 (0)), .int (J (r)), .int (J (k)), .int (J (v))] x y (pI ((lRf x 6 r 40 r k v).1) ((lRf x 6 r 40 r k v).2) (y)) := by
  refine g_met RX7 rfl (by decide +kernel) [(0, .ref (ad 7 (0))), (1, .ref (ad 30 (0))), (2, .int (J (r))), (3, .int (J (k))), (4, .int (J (v)))] rfl (Nat.le_of_ble_eq_true rfl) (fun Θ F hR => ?_)
  refine g_aload_n F dX7_laidOut_0 rfl 1 rfl ?_
  refine g_iload_n F dX7_laidOut_1 rfl 2 rfl ?_
  refine g_callS 2 F (As := [.ref (ad 30 (0)), .int (J (r))]) (st := []) (c_X7_isOneOf_R l D ad x y (r) (by omega)) rfl mk_X7_86 ki_X7_isOneOf kc_X7_isOneOf (by decide +kernel) rfl (by decide) dX7_laidOut_2 rfl (Nat.le_of_ble_eq_true rfl) (pB_k ?_)
  refine g_ifb_eq 19 F dX7_laidOut_5 rfl (fun c_1 => ?_) (fun c_1 => ?_)
  · skip
    refine g_iconst F dX7_laidOut_19 (-1) (by decide) ?_
    exact g_ireturn F hR dX7_laidOut_20 (pI_i (by unfold lRf; (repeat' split) <;> first | rfl | (exfalso; omega)) (by unfold lRf; (repeat' split) <;> first | rfl | (exfalso; omega)) rfl)
  · skip
    refine g_iload_n F dX7_laidOut_8 rfl 3 rfl ?_
    refine g_aload_n F dX7_laidOut_9 rfl 1 rfl ?_
    refine g_iload_n F dX7_laidOut_10 rfl 2 rfl ?_
    refine ga_30 F (by omega) dX7_laidOut_11 ?_
    refine ggN_Row_places F (by omega) fk_X7_72 dX7_laidOut_12 ?_
    refine gl_20 F (by omega) dX7_laidOut_15 ?_
    refine g_topi (b := 40) (by rw [if_pos (by omega)]) ?_
    refine g_icmp_le 21 F dX7_laidOut_16 (by omega) (by decide) rfl (fun c_2 => ?_) (fun c_2 => ?_)
    · skip
      refine g_iload_n F dX7_laidOut_21 rfl 3 rfl ?_
      refine g_if_ge 31 F dX7_laidOut_22 (by omega) rfl (fun c_3 => ?_) (fun c_3 => ?_)
      · skip
        refine g_aload_n F dX7_laidOut_31 rfl 1 rfl ?_
        refine g_iload_n F dX7_laidOut_32 rfl 2 rfl ?_
        refine ga_30 F (by omega) dX7_laidOut_33 ?_
        refine g_iload_n F dX7_laidOut_34 rfl 3 rfl ?_
        refine g_iload F dX7_laidOut_35 4 rfl ?_
        refine g_callV 2 F (As := [.int (J (k)), .int (J (v))]) (st := []) (c_X6_layOut l D ad x y (r) (k) (v) (by omega) (by rw [if_pos (by omega)]; omega)) (gR_6 (by omega)) rfl mk_X7_341 ki_X6_layOut kc_X6_layOut (by decide +kernel) rfl (by decide) dX7_laidOut_37 rfl (Nat.le_of_ble_eq_true rfl) (pV_k ?_)
        refine g_iload_n F dX7_laidOut_40 rfl 3 rfl ?_
        exact g_ireturn F hR dX7_laidOut_41 (pI_i (by unfold lRf; (repeat' split) <;> first | rfl | (exfalso; omega)) (by unfold lRf; (repeat' split) <;> first | rfl | (exfalso; omega)) rfl)
      · skip
        refine g_aload_n F dX7_laidOut_25 rfl 0 rfl ?_
        refine g_iconst F dX7_laidOut_26 (5) (by decide) ?_
        refine g_callV 1 F (As := [.int (J (5))]) (st := []) (c_X7_found l D ad x y (5) (by omega)) (gR_7) rfl mk_X7_90 ki_X7_found kc_X7_found (by decide +kernel) rfl (by decide) dX7_laidOut_27 rfl (Nat.le_of_ble_eq_true rfl) (pI_k ?_)
        exact g_ireturn F hR dX7_laidOut_30 (pI_i (by unfold lRf; (repeat' split) <;> first | rfl | (exfalso; omega)) (by unfold lRf; (repeat' split) <;> first | rfl | (exfalso; omega)) rfl)
    · skip
      refine g_iconst F dX7_laidOut_19 (-1) (by decide) ?_
      exact g_ireturn F hR dX7_laidOut_20 (pI_i (by unfold lRf; (repeat' split) <;> first | rfl | (exfalso; omega)) (by unfold lRf; (repeat' split) <;> first | rfl | (exfalso; omega)) rfl)

set_option maxRecDepth 20000 in
theorem c_X7_isOneOf_T (l : Launch) (D : gD) (ad : gA) (x : gX) (y : gY) (r : Int) (hr : i32 r) : gC l D ad 0 yX7_isOneOf cX7_isOneOf 2 (some .boolean) [.ref (ad 31 (0)), .int (J (r))] x y (pB (0 ≤ r ∧ r < 4) (x) (y)) := by
  refine g_met RX7 rfl (by decide +kernel) [(0, .ref (ad 31 (0))), (1, .int (J (r)))] rfl (Nat.le_of_ble_eq_true rfl) (fun Θ F hR => ?_)
  refine g_iload_n F dX7_isOneOf_0 rfl 1 rfl ?_
  refine g_if_lt 14 F dX7_isOneOf_1 (by omega) rfl (fun c_1 => ?_) (fun c_1 => ?_)
  · skip
    refine g_iconst F dX7_isOneOf_14 (0) (by decide) ?_
    exact g_zreturn F hR dX7_isOneOf_15 (by omega) (pB_i (by split <;> omega) rfl rfl)
  · skip
    refine g_iload_n F dX7_isOneOf_4 rfl 1 rfl ?_
    refine g_aload_n F dX7_isOneOf_5 rfl 0 rfl ?_
    refine gl_31 F dX7_isOneOf_6 ?_
    refine g_icmp_ge 14 F dX7_isOneOf_7 (by omega) (by decide) rfl (fun c_2 => ?_) (fun c_2 => ?_)
    · skip
      refine g_iconst F dX7_isOneOf_14 (0) (by decide) ?_
      exact g_zreturn F hR dX7_isOneOf_15 (by omega) (pB_i (by split <;> omega) rfl rfl)
    · skip
      refine g_iconst F dX7_isOneOf_10 (1) (by decide) ?_
      refine g_goto F 15 dX7_isOneOf_11 rfl ?_
      exact g_zreturn F hR dX7_isOneOf_15 (by omega) (pB_i (by split <;> omega) rfl rfl)

set_option maxRecDepth 20000 in
theorem c_X7_missingRefusal_T (l : Launch) (D : gD) (ad : gA) (x : gX) (y : gY) (r : Int) (hr : i32 r) (hRW : RWI x) : gC l D ad 1 yX7_missingRefusal cX7_missingRefusal 3 (some .int) [.ref (ad 7 (0)), .ref (ad 31 (0)), .int (J (r))] x y (pI ((mRf x 4 (6 + r) r).1) ((mRf x 4 (6 + r) r).2) (y)) := by
  refine g_met RX7 rfl (by decide +kernel) [(0, .ref (ad 7 (0))), (1, .ref (ad 31 (0))), (2, .int (J (r)))] rfl (Nat.le_of_ble_eq_true rfl) (fun Θ F hR => ?_)
  refine g_aload_n F dX7_missingRefusal_0 rfl 1 rfl ?_
  refine g_iload_n F dX7_missingRefusal_1 rfl 2 rfl ?_
  refine g_callS 2 F (As := [.ref (ad 31 (0)), .int (J (r))]) (st := []) (c_X7_isOneOf_T l D ad x y (r) (by omega)) rfl mk_X7_86 ki_X7_isOneOf kc_X7_isOneOf (by decide +kernel) rfl (by decide) dX7_missingRefusal_2 rfl (Nat.le_of_ble_eq_true rfl) (pB_k ?_)
  refine g_ifb_ne 10 F dX7_missingRefusal_5 rfl (fun c_1 => ?_) (fun c_1 => ?_)
  · skip
    have hw := hRW ((6 + r)) (by omega) (by omega)
    have hw2 : -1 ≤ x 17 ((6 + r)) 0 ∧ x 17 ((6 + r)) 0 ≤ 60 := by have := hw.1; split at this <;> omega
    refine g_aload_n F dX7_missingRefusal_10 rfl 1 rfl ?_
    refine g_iload_n F dX7_missingRefusal_11 rfl 2 rfl ?_
    refine ga_31 F (by omega) dX7_missingRefusal_12 ?_
    refine g_callV 0 F (As := []) (st := []) (c_X6_isMissing l D ad x y (6 + r) (by omega) (hw.1)) (gR_6 (by omega)) rfl mk_X7_94 ki_X6_isMissing kc_X6_isMissing (by decide +kernel) rfl (by decide) dX7_missingRefusal_13 rfl (Nat.le_of_ble_eq_true rfl) (pB_k ?_)
    refine g_ifb_eq 27 F dX7_missingRefusal_16 rfl (fun c_2 => ?_) (fun c_2 => ?_)
    · skip
      refine g_iconst F dX7_missingRefusal_27 (0) (by decide) ?_
      exact g_ireturn F hR dX7_missingRefusal_28 (pI_i (by unfold mRf; (repeat' split) <;> first | rfl | (exfalso; omega)) (by unfold mRf; (repeat' split) <;> first | rfl | (exfalso; omega)) rfl)
    · skip
      refine g_aload_n F dX7_missingRefusal_19 rfl 0 rfl ?_
      refine g_iconst F dX7_missingRefusal_20 (1) (by decide) ?_
      refine g_callV 1 F (As := [.int (J (1))]) (st := []) (c_X7_found l D ad x y (1) (by omega)) (gR_7) rfl mk_X7_90 ki_X7_found kc_X7_found (by decide +kernel) rfl (by decide) dX7_missingRefusal_21 rfl (Nat.le_of_ble_eq_true rfl) (pI_k ?_)
      refine g_goto F 28 dX7_missingRefusal_24 rfl ?_
      exact g_ireturn F hR dX7_missingRefusal_28 (pI_i (by unfold mRf; (repeat' split) <;> first | rfl | (exfalso; omega)) (by unfold mRf; (repeat' split) <;> first | rfl | (exfalso; omega)) rfl)
  · skip
    refine g_iconst F dX7_missingRefusal_8 (-1) (by decide) ?_
    exact g_ireturn F hR dX7_missingRefusal_9 (pI_i (by unfold mRf; (repeat' split) <;> first | rfl | (exfalso; omega)) (by unfold mRf; (repeat' split) <;> first | rfl | (exfalso; omega)) rfl)

set_option maxRecDepth 20000 in
theorem c_X7_placeRefusal_T (l : Launch) (D : gD) (ad : gA) (x : gX) (y : gY) (r i : Int) (hr : i32 r) (hi : i32 i) (hRW : RWI x) : gC l D ad 2 yX7_placeRefusal cX7_placeRefusal 5 (some .int) [.ref (ad 7 (0)), .ref (ad 31 (0)), .int (J (r)), .int (J (i))] x y (pI ((pRf x 4 (6 + r) r i).1) ((pRf x 4 (6 + r) r i).2) (y)) := by
  refine g_met RX7 rfl (by decide +kernel) [(0, .ref (ad 7 (0))), (1, .ref (ad 31 (0))), (2, .int (J (r))), (3, .int (J (i)))] rfl (Nat.le_of_ble_eq_true rfl) (fun Θ F hR => ?_)
  refine g_aload_n F dX7_placeRefusal_0 rfl 0 rfl ?_
  refine g_aload_n F dX7_placeRefusal_1 rfl 1 rfl ?_
  refine g_iload_n F dX7_placeRefusal_2 rfl 2 rfl ?_
  refine g_callV 2 F (As := [.ref (ad 31 (0)), .int (J (r))]) (st := []) (c_X7_missingRefusal_T l D ad x y (r) (by omega) (hRW)) (gR_7) rfl mk_X7_79 ki_X7_missingRefusal kc_X7_missingRefusal (by decide +kernel) rfl (by decide) dX7_placeRefusal_3 rfl (Nat.le_of_ble_eq_true rfl) (pI_k ?_)
  have hi0 := mRf_i x 4 (6 + r) r
  refine g_istore F [(4, .int (J ((mRf x 4 (6 + (r)) (r)).1))), (0, .ref (ad 7 (0))), (1, .ref (ad 31 (0))), (2, .int (J (r))), (3, .int (J (i)))] dX7_placeRefusal_6 (by decide) rfl ?_
  refine g_iload F dX7_placeRefusal_8 0 rfl ?_
  refine g_if_eq 16 F dX7_placeRefusal_10 (by omega) rfl (fun c_1 => ?_) (fun c_1 => ?_)
  · skip
    have hq := mRf_0 c_1
    have hw := hRW ((6 + r)) (by omega) (by omega)
    have hw2 : -1 ≤ x 17 ((6 + r)) 0 ∧ x 17 ((6 + r)) 0 ≤ 60 := by have := hw.1; split at this <;> omega
    refine g_mx (X := x) (hq.2.2) ?_
    refine g_iload_n F dX7_placeRefusal_16 rfl 4 rfl ?_
    refine g_if_lt 34 F dX7_placeRefusal_17 (by omega) rfl (fun c_2 => ?_) (fun c_2 => ?_)
    · skip
      refine g_aload_n F dX7_placeRefusal_34 rfl 1 rfl ?_
      refine g_iconst F dX7_placeRefusal_35 (2) (by decide) ?_
      refine g_callV 1 F (As := [.int (J (2))]) (st := []) (c_X7_found l D ad x y (2) (by omega)) (gR_7) rfl mk_X7_90 ki_X7_found kc_X7_found (by decide +kernel) rfl (by decide) dX7_placeRefusal_36 rfl (Nat.le_of_ble_eq_true rfl) (pI_k ?_)
      exact g_ireturn F hR dX7_placeRefusal_39 (pI_i (by unfold pRf; (repeat' split) <;> first | rfl | (exfalso; omega)) (by unfold pRf; (repeat' split) <;> first | rfl | (exfalso; omega)) rfl)
    · skip
      refine g_iload_n F dX7_placeRefusal_20 rfl 4 rfl ?_
      refine g_aload_n F dX7_placeRefusal_21 rfl 2 rfl ?_
      refine g_iload_n F dX7_placeRefusal_22 rfl 3 rfl ?_
      refine ga_31 F (by omega) dX7_placeRefusal_23 ?_
      refine ggN_Row_size F (by omega) fk_X7_83 dX7_placeRefusal_24 ?_
      refine g_icmp_ge 34 F dX7_placeRefusal_27 (by omega) (by omega) rfl (fun c_3 => ?_) (fun c_3 => ?_)
      · skip
        refine g_aload_n F dX7_placeRefusal_34 rfl 1 rfl ?_
        refine g_iconst F dX7_placeRefusal_35 (2) (by decide) ?_
        refine g_callV 1 F (As := [.int (J (2))]) (st := []) (c_X7_found l D ad x y (2) (by omega)) (gR_7) rfl mk_X7_90 ki_X7_found kc_X7_found (by decide +kernel) rfl (by decide) dX7_placeRefusal_36 rfl (Nat.le_of_ble_eq_true rfl) (pI_k ?_)
        exact g_ireturn F hR dX7_placeRefusal_39 (pI_i (by unfold pRf; (repeat' split) <;> first | rfl | (exfalso; omega)) (by unfold pRf; (repeat' split) <;> first | rfl | (exfalso; omega)) rfl)
      · skip
        refine g_iconst F dX7_placeRefusal_30 (0) (by decide) ?_
        refine g_goto F 39 dX7_placeRefusal_31 rfl ?_
        exact g_ireturn F hR dX7_placeRefusal_39 (pI_i (by unfold pRf; (repeat' split) <;> first | rfl | (exfalso; omega)) (by unfold pRf; (repeat' split) <;> first | rfl | (exfalso; omega)) rfl)
  · skip
    refine g_iload F dX7_placeRefusal_13 0 rfl ?_
    exact g_ireturn F hR dX7_placeRefusal_15 (pI_i (by unfold pRf; (repeat' split) <;> first | rfl | (exfalso; omega)) (by unfold pRf; (repeat' split) <;> first | rfl | (exfalso; omega)) rfl)

set_option maxRecDepth 20000 in
theorem c_X7_laidOut_T (l : Launch) (D : gD) (ad : gA) (x : gX) (y : gY) (r k v : Int) (hr : i32 r) (hk : i32 k) (hRW : RWI x) : gC l D ad 1 yX7_laidOut cX7_laidOut 5 (some .int) [.ref (ad 7 (0)), .ref (ad 31 (0)), .int (J (r)), .int (J (k)), .int (J (v))] x y (pI ((lRf x 4 (6 + r) 60 r k v).1) ((lRf x 4 (6 + r) 60 r k v).2) (y)) := by
  refine g_met RX7 rfl (by decide +kernel) [(0, .ref (ad 7 (0))), (1, .ref (ad 31 (0))), (2, .int (J (r))), (3, .int (J (k))), (4, .int (J (v)))] rfl (Nat.le_of_ble_eq_true rfl) (fun Θ F hR => ?_)
  refine g_aload_n F dX7_laidOut_0 rfl 1 rfl ?_
  refine g_iload_n F dX7_laidOut_1 rfl 2 rfl ?_
  refine g_callS 2 F (As := [.ref (ad 31 (0)), .int (J (r))]) (st := []) (c_X7_isOneOf_T l D ad x y (r) (by omega)) rfl mk_X7_86 ki_X7_isOneOf kc_X7_isOneOf (by decide +kernel) rfl (by decide) dX7_laidOut_2 rfl (Nat.le_of_ble_eq_true rfl) (pB_k ?_)
  refine g_ifb_eq 19 F dX7_laidOut_5 rfl (fun c_1 => ?_) (fun c_1 => ?_)
  · skip
    refine g_iconst F dX7_laidOut_19 (-1) (by decide) ?_
    exact g_ireturn F hR dX7_laidOut_20 (pI_i (by unfold lRf; (repeat' split) <;> first | rfl | (exfalso; omega)) (by unfold lRf; (repeat' split) <;> first | rfl | (exfalso; omega)) rfl)
  · skip
    refine g_iload_n F dX7_laidOut_8 rfl 3 rfl ?_
    refine g_aload_n F dX7_laidOut_9 rfl 1 rfl ?_
    refine g_iload_n F dX7_laidOut_10 rfl 2 rfl ?_
    refine ga_31 F (by omega) dX7_laidOut_11 ?_
    refine ggN_Row_places F (by omega) fk_X7_72 dX7_laidOut_12 ?_
    refine gl_20 F (by omega) dX7_laidOut_15 ?_
    refine g_topi (b := 60) (by rw [if_neg (by omega)]) ?_
    refine g_icmp_le 21 F dX7_laidOut_16 (by omega) (by decide) rfl (fun c_2 => ?_) (fun c_2 => ?_)
    · skip
      refine g_iload_n F dX7_laidOut_21 rfl 3 rfl ?_
      refine g_if_ge 31 F dX7_laidOut_22 (by omega) rfl (fun c_3 => ?_) (fun c_3 => ?_)
      · skip
        refine g_aload_n F dX7_laidOut_31 rfl 1 rfl ?_
        refine g_iload_n F dX7_laidOut_32 rfl 2 rfl ?_
        refine ga_31 F (by omega) dX7_laidOut_33 ?_
        refine g_iload_n F dX7_laidOut_34 rfl 3 rfl ?_
        refine g_iload F dX7_laidOut_35 4 rfl ?_
        refine g_callV 2 F (As := [.int (J (k)), .int (J (v))]) (st := []) (c_X6_layOut l D ad x y (6 + r) (k) (v) (by omega) (by rw [if_neg (by omega)]; omega)) (gR_6 (by omega)) rfl mk_X7_341 ki_X6_layOut kc_X6_layOut (by decide +kernel) rfl (by decide) dX7_laidOut_37 rfl (Nat.le_of_ble_eq_true rfl) (pV_k ?_)
        refine g_iload_n F dX7_laidOut_40 rfl 3 rfl ?_
        exact g_ireturn F hR dX7_laidOut_41 (pI_i (by unfold lRf; (repeat' split) <;> first | rfl | (exfalso; omega)) (by unfold lRf; (repeat' split) <;> first | rfl | (exfalso; omega)) rfl)
      · skip
        refine g_aload_n F dX7_laidOut_25 rfl 0 rfl ?_
        refine g_iconst F dX7_laidOut_26 (5) (by decide) ?_
        refine g_callV 1 F (As := [.int (J (5))]) (st := []) (c_X7_found l D ad x y (5) (by omega)) (gR_7) rfl mk_X7_90 ki_X7_found kc_X7_found (by decide +kernel) rfl (by decide) dX7_laidOut_27 rfl (Nat.le_of_ble_eq_true rfl) (pI_k ?_)
        exact g_ireturn F hR dX7_laidOut_30 (pI_i (by unfold lRf; (repeat' split) <;> first | rfl | (exfalso; omega)) (by unfold lRf; (repeat' split) <;> first | rfl | (exfalso; omega)) rfl)
    · skip
      refine g_iconst F dX7_laidOut_19 (-1) (by decide) ?_
      exact g_ireturn F hR dX7_laidOut_20 (pI_i (by unfold lRf; (repeat' split) <;> first | rfl | (exfalso; omega)) (by unfold lRf; (repeat' split) <;> first | rfl | (exfalso; omega)) rfl)

set_option maxRecDepth 20000 in
theorem c_X7_row (l : Launch) (D : gD) (ad : gA) (x : gX) (y : gY) (r n : Int) (hr : i32 r) (hn : i32 n) (hV : INV x) : gC l D ad 2 yX7_row cX7_row 3 (some .int) [.ref (ad 7 (0)), .int (J (r)), .int (J (n))] x y (pI ((lRf x 6 r 40 r n 0).1) ((lRf x 6 r 40 r n 0).2) (y)) := by
  refine g_met RX7 rfl (by decide +kernel) [(0, .ref (ad 7 (0))), (1, .int (J (r))), (2, .int (J (n)))] rfl (Nat.le_of_ble_eq_true rfl) (fun Θ F hR => ?_)
  refine g_aload_n F dX7_row_0 rfl 0 rfl ?_
  refine g_aload_n F dX7_row_1 rfl 0 rfl ?_
  refine gg_Day_rows F fk_X7_11 dX7_row_2 ?_
  refine g_iload_n F dX7_row_5 rfl 1 rfl ?_
  refine g_iload_n F dX7_row_6 rfl 2 rfl ?_
  refine g_iconst F dX7_row_7 (0) (by decide) ?_
  refine g_callV 4 F (As := [.ref (ad 30 (0)), .int (J (r)), .int (J (n)), .int (J (0))]) (st := []) (c_X7_laidOut_R l D ad x y (r) (n) (0) (by omega) (by omega) (hV.2.1)) (gR_7) rfl mk_X7_64 ki_X7_laidOut kc_X7_laidOut (by decide +kernel) rfl (by decide) dX7_row_8 rfl (Nat.le_of_ble_eq_true rfl) (pI_k ?_)
  exact g_ireturn F hR dX7_row_11 (pI_i (by rfl) (by rfl) rfl)

set_option maxRecDepth 20000 in
theorem c_X7_text (l : Launch) (D : gD) (ad : gA) (x : gX) (y : gY) (r n : Int) (hr : i32 r) (hn : i32 n) (hV : INV x) : gC l D ad 2 yX7_text cX7_text 3 (some .int) [.ref (ad 7 (0)), .int (J (r)), .int (J (n))] x y (pI ((lRf x 4 (6 + r) 60 r n 32).1) ((lRf x 4 (6 + r) 60 r n 32).2) (y)) := by
  refine g_met RX7 rfl (by decide +kernel) [(0, .ref (ad 7 (0))), (1, .int (J (r))), (2, .int (J (n)))] rfl (Nat.le_of_ble_eq_true rfl) (fun Θ F hR => ?_)
  refine g_aload_n F dX7_text_0 rfl 0 rfl ?_
  refine g_aload_n F dX7_text_1 rfl 0 rfl ?_
  refine gg_Day_texts F fk_X7_15 dX7_text_2 ?_
  refine g_iload_n F dX7_text_5 rfl 1 rfl ?_
  refine g_iload_n F dX7_text_6 rfl 2 rfl ?_
  refine g_bipush F dX7_text_7 (32) (by decide) ?_
  refine g_callV 4 F (As := [.ref (ad 31 (0)), .int (J (r)), .int (J (n)), .int (J (32))]) (st := []) (c_X7_laidOut_T l D ad x y (r) (n) (32) (by omega) (by omega) (hV.2.1)) (gR_7) rfl mk_X7_64 ki_X7_laidOut kc_X7_laidOut (by decide +kernel) rfl (by decide) dX7_text_9 rfl (Nat.le_of_ble_eq_true rfl) (pI_k ?_)
  exact g_ireturn F hR dX7_text_12 (pI_i (by rfl) (by rfl) rfl)

set_option maxRecDepth 20000 in
theorem c_X7_lay (l : Launch) (D : gD) (ad : gA) (x : gX) (y : gY) (r i v : Int) (hr : i32 r) (hi : i32 i) (hv : i32 v) (hV : INV x) : gC l D ad 3 yX7_lay cX7_lay 5 (some .int) [.ref (ad 7 (0)), .int (J (r)), .int (J (i)), .int (J (v))] x y (pI ((sLay x r i v).1) ((sLay x r i v).2) (y)) := by
  refine g_met RX7 rfl (by decide +kernel) [(0, .ref (ad 7 (0))), (1, .int (J (r))), (2, .int (J (i))), (3, .int (J (v)))] rfl (Nat.le_of_ble_eq_true rfl) (fun Θ F hR => ?_)
  obtain ⟨hN, hRW, hDD, hCU, hMS⟩ := hV
  refine g_aload_n F dX7_lay_0 rfl 0 rfl ?_
  refine g_aload_n F dX7_lay_1 rfl 0 rfl ?_
  refine gg_Day_rows F fk_X7_11 dX7_lay_2 ?_
  refine g_iload_n F dX7_lay_5 rfl 1 rfl ?_
  refine g_iload_n F dX7_lay_6 rfl 2 rfl ?_
  refine g_callV 3 F (As := [.ref (ad 30 (0)), .int (J (r)), .int (J (i))]) (st := []) (c_X7_placeRefusal_R l D ad x y (r) (i) (by omega) (by omega) (hRW)) (gR_7) rfl mk_X7_68 ki_X7_placeRefusal kc_X7_placeRefusal (by decide +kernel) rfl (by decide) dX7_lay_7 rfl (Nat.le_of_ble_eq_true rfl) (pI_k ?_)
  have hi0 := pRf_i x 6 r r i
  refine g_istore F [(4, .int (J ((pRf x 6 (r) (r) (i)).1))), (0, .ref (ad 7 (0))), (1, .int (J (r))), (2, .int (J (i))), (3, .int (J (v)))] dX7_lay_10 (by decide) rfl ?_
  refine g_iload F dX7_lay_12 0 rfl ?_
  refine g_if_eq 20 F dX7_lay_14 (by omega) rfl (fun c_1 => ?_) (fun c_1 => ?_)
  · skip
    have hq := pRf_0 c_1
    have hw := hRW (r) (by omega) (by omega)
    have hw2 : -1 ≤ x 17 (r) 0 ∧ x 17 (r) 0 ≤ 60 := by have := hw.1; split at this <;> omega
    have hwc := hw.1.2
    refine g_mx (X := x) (hq.2.2) ?_
    refine g_aload_n F dX7_lay_20 rfl 1 rfl ?_
    refine g_aload_n F dX7_lay_21 rfl 1 rfl ?_
    refine gg_Day_rows F fk_X7_11 dX7_lay_22 ?_
    refine g_iload_n F dX7_lay_25 rfl 2 rfl ?_
    refine ga_30 F (by omega) dX7_lay_26 ?_
    refine ggN_Row_places F (by omega) fk_X7_72 dX7_lay_27 ?_
    refine g_iload_n F dX7_lay_30 rfl 3 rfl ?_
    refine ga_20 F (by omega) (by omega) dX7_lay_31 ?_
    refine gp_Day_told F fk_X7_75 dX7_lay_32 ?_
    refine g_aload_n F dX7_lay_35 rfl 1 rfl ?_
    refine gg_Day_rows F fk_X7_11 dX7_lay_36 ?_
    refine g_iload_n F dX7_lay_39 rfl 2 rfl ?_
    refine ga_30 F (by omega) dX7_lay_40 ?_
    refine ggN_Row_places F (by omega) fk_X7_72 dX7_lay_41 ?_
    refine g_iload_n F dX7_lay_44 rfl 3 rfl ?_
    refine g_iload_n F dX7_lay_45 rfl 4 rfl ?_
    refine gs_20 F (by omega) (by omega) dX7_lay_46 ?_
    refine g_iconst F dX7_lay_47 (1) (by decide) ?_
    exact g_ireturn F hR dX7_lay_48 (pI_i (by unfold sLay; (repeat' split) <;> first | rfl | (exfalso; omega)) (by unfold sLay; (repeat' split) <;> first | rfl | (exfalso; omega)) rfl)
  · skip
    refine g_iload F dX7_lay_17 0 rfl ?_
    exact g_ireturn F hR dX7_lay_19 (pI_i (by unfold sLay; (repeat' split) <;> first | rfl | (exfalso; omega)) (by unfold sLay; (repeat' split) <;> first | rfl | (exfalso; omega)) rfl)

set_option maxRecDepth 20000 in
theorem c_X7_at (l : Launch) (D : gD) (ad : gA) (x : gX) (y : gY) (r i : Int) (hr : i32 r) (hi : i32 i) (hV : INV x) : gC l D ad 3 yX7_at cX7_at 4 (some .int) [.ref (ad 7 (0)), .int (J (r)), .int (J (i))] x y (pI ((sAt x r i).1) ((sAt x r i).2) (y)) := by
  refine g_met RX7 rfl (by decide +kernel) [(0, .ref (ad 7 (0))), (1, .int (J (r))), (2, .int (J (i)))] rfl (Nat.le_of_ble_eq_true rfl) (fun Θ F hR => ?_)
  obtain ⟨hN, hRW, hDD, hCU, hMS⟩ := hV
  refine g_aload_n F dX7_at_0 rfl 0 rfl ?_
  refine g_aload_n F dX7_at_1 rfl 0 rfl ?_
  refine gg_Day_rows F fk_X7_11 dX7_at_2 ?_
  refine g_iload_n F dX7_at_5 rfl 1 rfl ?_
  refine g_iload_n F dX7_at_6 rfl 2 rfl ?_
  refine g_callV 3 F (As := [.ref (ad 30 (0)), .int (J (r)), .int (J (i))]) (st := []) (c_X7_placeRefusal_R l D ad x y (r) (i) (by omega) (by omega) (hRW)) (gR_7) rfl mk_X7_68 ki_X7_placeRefusal kc_X7_placeRefusal (by decide +kernel) rfl (by decide) dX7_at_7 rfl (Nat.le_of_ble_eq_true rfl) (pI_k ?_)
  have hi0 := pRf_i x 6 r r i
  refine g_istore_n F [(3, .int (J ((pRf x 6 (r) (r) (i)).1))), (0, .ref (ad 7 (0))), (1, .int (J (r))), (2, .int (J (i)))] dX7_at_10 rfl (by decide) rfl ?_
  refine g_iload_n F dX7_at_11 rfl 0 rfl ?_
  refine g_if_eq 17 F dX7_at_12 (by omega) rfl (fun c_1 => ?_) (fun c_1 => ?_)
  · skip
    have hq := pRf_0 c_1
    have hw := hRW (r) (by omega) (by omega)
    have hw2 : -1 ≤ x 17 (r) 0 ∧ x 17 (r) 0 ≤ 60 := by have := hw.1; split at this <;> omega
    have hwc := hw.1.2
    refine g_mx (X := x) (hq.2.2) ?_
    refine g_aload_n F dX7_at_17 rfl 1 rfl ?_
    refine g_aload_n F dX7_at_18 rfl 1 rfl ?_
    refine gg_Day_rows F fk_X7_11 dX7_at_19 ?_
    refine g_iload_n F dX7_at_22 rfl 2 rfl ?_
    refine ga_30 F (by omega) dX7_at_23 ?_
    refine ggN_Row_places F (by omega) fk_X7_72 dX7_at_24 ?_
    refine g_iload_n F dX7_at_27 rfl 3 rfl ?_
    refine ga_20 F (by omega) (by omega) dX7_at_28 ?_
    refine gp_Day_told F fk_X7_75 dX7_at_29 ?_
    refine g_iconst F dX7_at_32 (1) (by decide) ?_
    exact g_ireturn F hR dX7_at_33 (pI_i (by unfold sAt; (repeat' split) <;> first | rfl | (exfalso; omega)) (by unfold sAt; (repeat' split) <;> first | rfl | (exfalso; omega)) rfl)
  · skip
    refine g_iload_n F dX7_at_15 rfl 0 rfl ?_
    exact g_ireturn F hR dX7_at_16 (pI_i (by unfold sAt; (repeat' split) <;> first | rfl | (exfalso; omega)) (by unfold sAt; (repeat' split) <;> first | rfl | (exfalso; omega)) rfl)

set_option maxRecDepth 20000 in
theorem c_X7_tear (l : Launch) (D : gD) (ad : gA) (x : gX) (y : gY) (r : Int) (hr : i32 r) (hV : INV x) : gC l D ad 2 yX7_tear cX7_tear 3 (some .int) [.ref (ad 7 (0)), .int (J (r))] x y (pI ((sTear x r).1) ((sTear x r).2) (y)) := by
  refine g_met RX7 rfl (by decide +kernel) [(0, .ref (ad 7 (0))), (1, .int (J (r)))] rfl (Nat.le_of_ble_eq_true rfl) (fun Θ F hR => ?_)
  obtain ⟨hN, hRW, hDD, hCU, hMS⟩ := hV
  refine g_aload_n F dX7_tear_0 rfl 0 rfl ?_
  refine g_aload_n F dX7_tear_1 rfl 0 rfl ?_
  refine gg_Day_rows F fk_X7_11 dX7_tear_2 ?_
  refine g_iload_n F dX7_tear_5 rfl 1 rfl ?_
  refine g_callV 2 F (As := [.ref (ad 30 (0)), .int (J (r))]) (st := []) (c_X7_missingRefusal_R l D ad x y (r) (by omega) (hRW)) (gR_7) rfl mk_X7_79 ki_X7_missingRefusal kc_X7_missingRefusal (by decide +kernel) rfl (by decide) dX7_tear_6 rfl (Nat.le_of_ble_eq_true rfl) (pI_k ?_)
  have hi0 := mRf_i x 6 r r
  refine g_istore_n F [(2, .int (J ((mRf x 6 (r) (r)).1))), (0, .ref (ad 7 (0))), (1, .int (J (r)))] dX7_tear_9 rfl (by decide) rfl ?_
  refine g_iload_n F dX7_tear_10 rfl 0 rfl ?_
  refine g_if_eq 16 F dX7_tear_11 (by omega) rfl (fun c_1 => ?_) (fun c_1 => ?_)
  · skip
    have hq := mRf_0 c_1
    refine g_mx (X := x) (hq.2.2) ?_
    refine g_aload_n F dX7_tear_16 rfl 1 rfl ?_
    refine gg_Day_rows F fk_X7_11 dX7_tear_17 ?_
    refine g_iload_n F dX7_tear_20 rfl 2 rfl ?_
    refine ga_30 F (by omega) dX7_tear_21 ?_
    refine g_iconst F dX7_tear_22 (-1) (by decide) ?_
    refine gpN_Row_size F (by omega) fk_X7_83 dX7_tear_23 ?_
    refine g_iconst F dX7_tear_26 (1) (by decide) ?_
    exact g_ireturn F hR dX7_tear_27 (pI_i (by unfold sTear; (repeat' split) <;> first | rfl | (exfalso; omega)) (by unfold sTear; (repeat' split) <;> first | rfl | (exfalso; omega)) rfl)
  · skip
    refine g_iload_n F dX7_tear_14 rfl 0 rfl ?_
    exact g_ireturn F hR dX7_tear_15 (pI_i (by unfold sTear; (repeat' split) <;> first | rfl | (exfalso; omega)) (by unfold sTear; (repeat' split) <;> first | rfl | (exfalso; omega)) rfl)


set_option maxRecDepth 20000 in
theorem c_X7_put (l : Launch) (D : gD) (ad : gA) (x : gX) (y : gY) (r i v : Int) (hr : i32 r) (hi : i32 i) (hv : i32 v) (hV : INV x) : gC l D ad 3 yX7_put cX7_put 6 (some .int) [.ref (ad 7 (0)), .int (J (r)), .int (J (i)), .int (J (v))] x y (pI ((sPut x r i v).1) ((sPut x r i v).2) (y)) := by
  refine g_met RX7 rfl (by decide +kernel) [(0, .ref (ad 7 (0))), (1, .int (J (r))), (2, .int (J (i))), (3, .int (J (v)))] rfl (Nat.le_of_ble_eq_true rfl) (fun Θ F hR => ?_)
  obtain ⟨hN, hRW, hDD, hCU, hMS⟩ := hV
  refine g_aload_n F dX7_put_0 rfl 0 rfl ?_
  refine g_aload_n F dX7_put_1 rfl 0 rfl ?_
  refine gg_Day_texts F fk_X7_15 dX7_put_2 ?_
  refine g_iload_n F dX7_put_5 rfl 1 rfl ?_
  refine g_iload_n F dX7_put_6 rfl 2 rfl ?_
  refine g_callV 3 F (As := [.ref (ad 31 (0)), .int (J (r)), .int (J (i))]) (st := []) (c_X7_placeRefusal_T l D ad x y (r) (i) (by omega) (by omega) (hRW)) (gR_7) rfl mk_X7_68 ki_X7_placeRefusal kc_X7_placeRefusal (by decide +kernel) rfl (by decide) dX7_put_7 rfl (Nat.le_of_ble_eq_true rfl) (pI_k ?_)
  have hi0 := pRf_i x 4 (6 + r) r i
  refine g_istore F [(4, .int (J ((pRf x 4 (6 + (r)) (r) (i)).1))), (0, .ref (ad 7 (0))), (1, .int (J (r))), (2, .int (J (i))), (3, .int (J (v)))] dX7_put_10 (by decide) rfl ?_
  refine g_iload F dX7_put_12 0 rfl ?_
  refine g_if_eq 20 F dX7_put_14 (by omega) rfl (fun c_1 => ?_) (fun c_1 => ?_)
  · skip
    have hq := pRf_0 c_1
    have hw := hRW (6 + r) (by omega) (by omega)
    have hw2 : -1 ≤ x 17 (6 + r) 0 ∧ x 17 (6 + r) 0 ≤ 60 := by have := hw.1; split at this <;> omega
    have hwc := hw.1.2
    refine g_mx (X := x) (hq.2.2) ?_
    refine g_aload_n F dX7_put_20 rfl 1 rfl ?_
    refine gg_Day_texts F fk_X7_15 dX7_put_21 ?_
    refine g_iload_n F dX7_put_24 rfl 2 rfl ?_
    refine ga_31 F (by omega) dX7_put_25 ?_
    refine ggN_Row_places F (by omega) fk_X7_72 dX7_put_26 ?_
    refine g_iload_n F dX7_put_29 rfl 3 rfl ?_
    refine ga_20 F (by omega) (by omega) dX7_put_30 ?_
    refine g_istore F [(5, .int (J (x 20 (6 + r) (i)))), (4, .int (J ((pRf x 4 (6 + (r)) (r) (i)).1))), (0, .ref (ad 7 (0))), (1, .int (J (r))), (2, .int (J (i))), (3, .int (J (v)))] dX7_put_31 (by decide) rfl ?_
    refine g_aload_n F dX7_put_33 rfl 2 rfl ?_
    refine gg_Day_texts F fk_X7_15 dX7_put_34 ?_
    refine g_iload_n F dX7_put_37 rfl 3 rfl ?_
    refine ga_31 F (by omega) dX7_put_38 ?_
    refine ggN_Row_places F (by omega) fk_X7_72 dX7_put_39 ?_
    refine g_iload_n F dX7_put_42 rfl 4 rfl ?_
    refine g_iload_n F dX7_put_43 rfl 5 rfl ?_
    refine g_i2b F dX7_put_44 (by omega) ?_
    refine gs_20 F (by omega) (by omega) dX7_put_45 ?_
    refine g_sipush F dX7_put_46 (1000) (by decide) ?_
    refine g_iload F dX7_put_49 0 rfl ?_
    refine g_iadd F dX7_put_51 ?_
    exact g_ireturn F hR dX7_put_52 (pI_i (by unfold sPut; (repeat' split) <;> first | rfl | (exfalso; omega)) (by unfold sPut; (repeat' split) <;> first | rfl | (exfalso; omega)) rfl)
  · skip
    refine g_iload F dX7_put_17 0 rfl ?_
    exact g_ireturn F hR dX7_put_19 (pI_i (by unfold sPut; (repeat' split) <;> first | rfl | (exfalso; omega)) (by unfold sPut; (repeat' split) <;> first | rfl | (exfalso; omega)) rfl)

