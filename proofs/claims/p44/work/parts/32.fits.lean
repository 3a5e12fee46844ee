/-! how hot it was -/
abbrev paP (x : gX) (r b n : Int) : Prop := sumZ (fun j => if 0 ≤ x 20 r j ∧ x 20 r j < (if j % 2 = 0 then b else 3) then 0 else 1) n = 0
def pfU (x : gX) (r b : Int) : Int := if x 17 r 0 = -1 then 1 else if x 17 r 0 % 2 ≠ 0 then 5 else if paP x r b (x 17 r 0) then 0 else 3
theorem pfU_r (x : gX) (r b : Int) : 0 ≤ pfU x r b ∧ pfU x r b ≤ 5 := by unfold pfU; (repeat' split) <;> omega
theorem pfU_0 {x : gX} {r b : Int} (h : pfU x r b = 0) : x 17 r 0 ≠ -1 ∧ x 17 r 0 % 2 = 0 ∧ paP x r b (x 17 r 0) := by
  unfold pfU at h
  split at h
  · omega
  · split at h
    · omega
    · split at h
      · exact ⟨by assumption, by omega, by assumption⟩
      · omega
theorem paP_at {x : gX} {r b n j : Int} (hn : 0 ≤ n) (h : paP x r b n) (h0 : 0 ≤ j) (h1 : j < n) : 0 ≤ x 20 r j ∧ x 20 r j < (if j % 2 = 0 then b else 3) := (mmZ_iff (P := fun j => 0 ≤ x 20 r j ∧ x 20 r j < (if j % 2 = 0 then b else 3)) hn).mp h j h0 h1
theorem paP_2 {x : gX} {r b n : Int} (hn : 0 ≤ n ∧ n % 2 = 0) (h : paP x r b n) (q : Int) (h0 : 0 ≤ q) (h1 : 2 * q < n) : (0 ≤ x 20 r (2 * q) ∧ x 20 r (2 * q) < b) ∧ 0 ≤ x 20 r (2 * q + 1) ∧ x 20 r (2 * q + 1) ≤ 2 := by
  have a := paP_at hn.1 h (j := 2 * q) (by omega) (by omega)
  have c := paP_at hn.1 h (j := 2 * q + 1) (by omega) (by omega)
  rw [if_pos (by omega)] at a
  rw [if_neg (by omega)] at c
  omega
def rRf (x : gX) (r : Int) : Int := if ¬ (0 ≤ r ∧ r < 6) then -1 else if x 10 0 0 = 0 then -4 else 0
theorem rRf_0 {x : gX} {r : Int} (q : rRf x r = 0) : (0 ≤ r ∧ r < 6) ∧ x 10 0 0 ≠ 0 := by
  unfold rRf at q
  split at q
  · omega
  · split at q
    · omega
    · omega
theorem rRf_r (x : gX) (r : Int) : -4 ≤ rRf x r ∧ rRf x r ≤ 0 := by unfold rRf; (repeat' split) <;> omega
def tRf (x : gX) (r : Int) : Int × gX := if rRf x r ≠ 0 then (rRf x r, x) else if pfU x r (x 10 0 0) = 0 then (0, x) else (-3, fnd x (pfU x r (x 10 0 0)))
theorem tRf_0 {x : gX} {r : Int} (q : (tRf x r).1 = 0) : (0 ≤ r ∧ r < 6) ∧ x 10 0 0 ≠ 0 ∧ pfU x r (x 10 0 0) = 0 ∧ (tRf x r).2 = x := by
  unfold tRf at q ⊢
  split at q
  · rename_i h; exact absurd q h
  · rename_i h
    rw [if_neg h]
    have h2 := rRf_0 (x := x) (r := r) (by omega)
    split at q
    · rename_i h3
      rw [if_pos h3]
      exact ⟨h2.1, h2.2, h3, rfl⟩
    · exact absurd (show (-3 : Int) = 0 from q) (by decide)
theorem tRf_r (x : gX) (r : Int) : -4 ≤ (tRf x r).1 ∧ (tRf x r).1 ≤ 0 := by
  have := rRf_r x r
  unfold tRf; (repeat' split) <;> first | omega | simp
def vRf (x : gX) (i r : Int) : Int × gX := if ¬ (mnN x i ∧ 0 ≤ r ∧ r < 6) then (-1, x) else if pfU x r 31 = 0 then (0, x) else (-3, fnd x (pfU x r 31))
theorem vRf_0 {x : gX} {i r : Int} (q : (vRf x i r).1 = 0) : (mnN x i ∧ 0 ≤ r ∧ r < 6) ∧ pfU x r 31 = 0 ∧ (vRf x i r).2 = x := by
  unfold vRf at q ⊢
  split at q
  · exact absurd (show (-1 : Int) = 0 from q) (by decide)
  · rename_i h
    rw [if_neg h]
    split at q
    · rename_i h3
      rw [if_pos h3]
      exact ⟨Decidable.not_not.mp h, h3, rfl⟩
    · exact absurd (show (-3 : Int) = 0 from q) (by decide)
theorem vRf_r (x : gX) (i r : Int) : -4 ≤ (vRf x i r).1 ∧ (vRf x i r).1 ≤ 0 := by unfold vRf; (repeat' split) <;> simp
def sFits (x : gX) (r : Int) : Int × gX := if (tRf x r).1 ≠ 0 then tRf x r else (ftU x r, xU x 19 0 0 (pcZ (ftU x r)))
def sAsk (x : gX) (r : Int) : Int × gX := if (tRf x r).1 ≠ 0 then tRf x r else if ftU x r = 0 then (-9, x) else ((bsN (fun i => gpU x i (ftU x r)) (x 10 0 0 - 1).toNat).1, xU x 19 0 0 (bsN (fun i => gpU x i (ftU x r)) (x 10 0 0 - 1).toNat).2)
theorem mxZ_r {f : Int → Int} (hf : ∀ v : Int, 0 ≤ f v ∧ f v ≤ 31) : 0 ≤ mxZ f 3 ∧ mxZ f 3 ≤ 31 := by
  have a := hf 0
  have b := hf 1
  have c := hf 2
  show 0 ≤ max (max (max 0 (f 0)) (f 1)) (f 2) ∧ max (max (max 0 (f 0)) (f 1)) (f 2) ≤ 31
  omega
theorem gpU_r (x : gX) (i s : Int) : 0 ≤ gpU x i s ∧ gpU x i s ≤ 31 := mxZ_r (fun v => cntZ_r (by decide))
/-- what the i-th would tell, if he were of another kind, had another hand -/
def vKH (x : gX) (i k d h : Int) : Int := if sComes k (x 2 i 0) (x 3 i 0) h then (if 0 < sBurn (x 11 0 0) (x 12 0 0) k (x 3 i 0) d h - x 13 0 0 - 2 * x 5 i 0 then 0 else 1) else 2
abbrev wkP (x : gX) (i k d r : Int) : Prop := sumZ (fun q => if vKH x i k d (x 20 r (2 * q)) = x 20 r (2 * q + 1) then 0 else 1) (x 17 r 0 / 2) = 0
def sHands (x : gX) (i r : Int) : Int × gX := if (vRf x i r).1 ≠ 0 then vRf x i r else (bitsZ (fun d => wkP x i (x 1 i 0) d r) 10, x)
def sKinds (x : gX) (i r : Int) : Int × gX := if (vRf x i r).1 ≠ 0 then vRf x i r else (bitsZ (fun k => wkP x i k (x 4 i 0) r) 6, x)
theorem lkM_0 (x : gX) (i k0 : Int) (h : k0 = 1 ∨ k0 = 4) : likeM x i = lkM x i k0 (x k0 i 0) := by
  funext k q j
  show likeM x i k q j = if k = k0 ∧ q = 6 ∧ j = 0 then x k0 i 0 else likeM x i k q j
  split
  · rename_i e
    obtain ⟨rfl, rfl, rfl⟩ := e
    rcases h with rfl | rfl <;> rfl
  · rfl
theorem lkM_u (x : gX) (i k0 v w : Int) : xU (lkM x i k0 v) k0 6 0 w = lkM x i k0 w := by
  funext k q j
  unfold lkM xU
  split
  · rfl
  · rfl
def sDuel (x : gX) (n : Int) : Int × gX := if n < 0 ∨ 6 < n then (-1, x) else if x 10 0 0 = 0 then (-4, x) else (dwN (fun h => foU x h) n n.toNat (x 15 0 0), x)
set_option maxRecDepth 20000 in
theorem c_X7_rowRefusal (l : Launch) (D : gD) (ad : gA) (x : gX) (y : gY) (r : Int) (hr : i32 r) (hN : NOK x) : gC l D ad 1 yX7_rowRefusal cX7_rowRefusal 2 (some .int) [.ref (ad 7 (0)), .int (J (r))] x y (pI (rRf x r) (x) (y)) := by
  refine g_met RX7 rfl (by decide +kernel) [(0, .ref (ad 7 (0))), (1, .int (J (r)))] rfl (Nat.le_of_ble_eq_true rfl) (fun Θ F hR => ?_)
  refine g_aload_n F dX7_rowRefusal_0 rfl 0 rfl ?_
  refine gg_Day_rows F fk_X7_11 dX7_rowRefusal_1 ?_
  refine g_iload_n F dX7_rowRefusal_4 rfl 1 rfl ?_
  refine g_callS 2 F (As := [.ref (ad 30 (0)), .int (J (r))]) (st := []) (c_X7_isOneOf_R l D ad x y (r) (by omega)) rfl mk_X7_86 ki_X7_isOneOf kc_X7_isOneOf (by decide +kernel) rfl (by decide) dX7_rowRefusal_5 rfl (Nat.le_of_ble_eq_true rfl) (pB_k ?_)
  refine g_ifb_ne 13 F dX7_rowRefusal_8 rfl (fun c_1 => ?_) (fun c_1 => ?_)
  · skip
    refine g_aload_n F dX7_rowRefusal_13 rfl 0 rfl ?_
    refine gg_Day_court F fk_X7_28 dX7_rowRefusal_14 ?_
    refine ggN_Court_size F fk_X7_121 dX7_rowRefusal_17 ?_
    refine g_if_ne 28 F dX7_rowRefusal_20 (by omega) rfl (fun c_2 => ?_) (fun c_2 => ?_)
    · skip
      refine g_iconst F dX7_rowRefusal_28 (0) (by decide) ?_
      exact g_ireturn F hR dX7_rowRefusal_29 (pI_i (by unfold rRf; (repeat' split) <;> first | rfl | (exfalso; omega)) rfl rfl)
    · skip
      refine g_bipush F dX7_rowRefusal_23 (-4) (by decide) ?_
      refine g_goto F 29 dX7_rowRefusal_25 rfl ?_
      exact g_ireturn F hR dX7_rowRefusal_29 (pI_i (by unfold rRf; (repeat' split) <;> first | rfl | (exfalso; omega)) rfl rfl)
  · skip
    refine g_iconst F dX7_rowRefusal_11 (-1) (by decide) ?_
    exact g_ireturn F hR dX7_rowRefusal_12 (pI_i (by unfold rRf; (repeat' split) <;> first | rfl | (exfalso; omega)) rfl rfl)

set_option maxRecDepth 20000 in
theorem c_X7_pairsFinding (l : Launch) (D : gD) (ad : gA) (x : gX) (y : gY) (r b : Int) (hr : 0 ≤ r ∧ r < 10) (hb : 0 ≤ b ∧ b ≤ 100) (hs : -1 ≤ x 17 r 0 ∧ x 17 r 0 ≤ (if r < 6 then 40 else 60)) (hx : ∀ j : Int, i32 (x 20 r j)) : gC l D ad 1 yX7_pairsFinding cX7_pairsFinding 4 (some .int) [.ref (ad 6 (r)), .int (J (b))] x y (pI (pfU x r b) (x) (y)) := by
  refine g_met RX7 rfl (by decide +kernel) [(0, .ref (ad 6 (r))), (1, .int (J (b)))] rfl (Nat.le_of_ble_eq_true rfl) (fun Θ F hR => ?_)
  have hs2 : x 17 r 0 ≤ 60 := by split at hs <;> omega
  refine g_aload_n F dX7_pairsFinding_0 rfl 0 rfl ?_
  refine g_callV 0 F (As := []) (st := []) (c_X6_isMissing l D ad x y (r) (by omega) (by omega)) (gR_6 (by omega)) rfl mk_X7_94 ki_X6_isMissing kc_X6_isMissing (by decide +kernel) rfl (by decide) dX7_pairsFinding_1 rfl (Nat.le_of_ble_eq_true rfl) (pB_k ?_)
  refine g_ifb_eq 9 F dX7_pairsFinding_4 rfl (fun c_1 => ?_) (fun c_1 => ?_)
  · skip
    refine g_aload_n F dX7_pairsFinding_9 rfl 0 rfl ?_
    refine ggN_Row_size F (by omega) fk_X7_83 dX7_pairsFinding_10 ?_
    refine g_iconst F dX7_pairsFinding_13 (2) (by decide) ?_
    refine g_iremp F dX7_pairsFinding_14 (by omega) (by decide) (by omega) (by decide) ?_
    refine g_if_eq 20 F dX7_pairsFinding_15 (by omega) rfl (fun c_2 => ?_) (fun c_2 => ?_)
    · skip
      refine g_iconst F dX7_pairsFinding_20 (0) (by decide) ?_
      refine g_istore_n F [(2, .int (J (0))), (0, .ref (ad 6 (r))), (1, .int (J (b)))] dX7_pairsFinding_21 rfl (by decide) rfl ?_
      have L22 : ∀ (N : Nat) (j : Int), 0 ≤ j ∧ j ≤ x 17 r 0 → paP x r b j → (x 17 r 0 - j).toNat < N → gW Θ l D ad 4 22 [(0, .ref (ad 6 (r))), (1, .int (J (b))), (2, .int (J (j)))] [] x y := by
        intro N
        induction N with
        | zero => intro j hj ha hFu; omega
        | succ N ih22 =>
          intro j hj ha hFu
          refine g_iload_n F dX7_pairsFinding_22 rfl 2 rfl ?_
          refine g_aload_n F dX7_pairsFinding_23 rfl 0 rfl ?_
          refine ggN_Row_size F (by omega) fk_X7_83 dX7_pairsFinding_24 ?_
          refine g_icmp_ge 69 F dX7_pairsFinding_27 (by omega) (by omega) rfl (fun c_3 => ?_) (fun c_3 => ?_)
          · skip
            refine g_iconst F dX7_pairsFinding_69 (0) (by decide) ?_
            exact g_ireturn F hR dX7_pairsFinding_70 (pI_i (by unfold pfU; first | (rw [if_pos (by omega)]; done) | (rw [if_neg (by omega), if_pos (by omega)]; done) | (rw [if_neg (by omega), if_neg (by omega), if_neg (mm_no (P := fun j => 0 ≤ x 20 r j ∧ x 20 r j < (if j % 2 = 0 then b else 3)) (j := j) (by omega) (by omega) (by split <;> omega))]; done) | (rw [show j = x 17 r 0 by omega] at ha; rw [if_neg (by omega), if_neg (by omega), if_pos ha])) rfl rfl)
          · skip
            refine g_iload_n F dX7_pairsFinding_30 rfl 2 rfl ?_
            refine g_iconst F dX7_pairsFinding_31 (2) (by decide) ?_
            refine g_iremp F dX7_pairsFinding_32 (by omega) (by decide) (by omega) (by decide) ?_
            refine g_if_ne 40 F dX7_pairsFinding_33 (by omega) rfl (fun c_4 => ?_) (fun c_4 => ?_)
            · skip
              refine g_iconst F dX7_pairsFinding_40 (3) (by decide) ?_
              refine g_istore_n F [(3, .int (J (3))), (0, .ref (ad 6 (r))), (1, .int (J (b))), (2, .int (J (j)))] dX7_pairsFinding_41 rfl (by decide) rfl ?_
              refine g_aload_n F dX7_pairsFinding_42 rfl 1 rfl ?_
              refine ggN_Row_places F (by omega) fk_X7_72 dX7_pairsFinding_43 ?_
              refine g_iload_n F dX7_pairsFinding_46 rfl 3 rfl ?_
              refine ga_20 F (by omega) (by omega) dX7_pairsFinding_47 ?_
              refine g_if_lt 61 F dX7_pairsFinding_48 (hx j) rfl (fun c_5 => ?_) (fun c_5 => ?_)
              · skip
                refine g_iconst F dX7_pairsFinding_61 (3) (by decide) ?_
                exact g_ireturn F hR dX7_pairsFinding_62 (pI_i (by unfold pfU; first | (rw [if_pos (by omega)]; done) | (rw [if_neg (by omega), if_pos (by omega)]; done) | (rw [if_neg (by omega), if_neg (by omega), if_neg (mm_no (P := fun j => 0 ≤ x 20 r j ∧ x 20 r j < (if j % 2 = 0 then b else 3)) (j := j) (by omega) (by omega) (by split <;> omega))]; done) | (rw [show j = x 17 r 0 by omega] at ha; rw [if_neg (by omega), if_neg (by omega), if_pos ha])) rfl rfl)
              · skip
                refine g_aload_n F dX7_pairsFinding_51 rfl 1 rfl ?_
                refine ggN_Row_places F (by omega) fk_X7_72 dX7_pairsFinding_52 ?_
                refine g_iload_n F dX7_pairsFinding_55 rfl 3 rfl ?_
                refine ga_20 F (by omega) (by omega) dX7_pairsFinding_56 ?_
                refine g_iload_n F dX7_pairsFinding_57 rfl 0 rfl ?_
                refine g_icmp_lt 63 F dX7_pairsFinding_58 (hx j) (by decide) rfl (fun c_6 => ?_) (fun c_6 => ?_)
                · skip
                  refine g_iinc F [(2, .int (J (j + 1))), (3, .int (J (3))), (0, .ref (ad 6 (r))), (1, .int (J (b)))] 3 rfl dX7_pairsFinding_63 (by decide) rfl ?_
                  refine g_goto F 22 dX7_pairsFinding_66 rfl ?_
                  refine g_sub [2, 3, 0] (lv' := [(0, .ref (ad 6 (r))), (1, .int (J (b))), (2, .int (J (j + 1)))]) rfl ?_
                  exact ih22 (j + 1) (by omega) ((mm_s (f := fun j => 0 ≤ x 20 r j ∧ x 20 r j < (if j % 2 = 0 then b else 3)) (by omega)).mpr ⟨ha, by split <;> omega⟩) (by omega)
                · skip
                  refine g_iconst F dX7_pairsFinding_61 (3) (by decide) ?_
                  exact g_ireturn F hR dX7_pairsFinding_62 (pI_i (by unfold pfU; first | (rw [if_pos (by omega)]; done) | (rw [if_neg (by omega), if_pos (by omega)]; done) | (rw [if_neg (by omega), if_neg (by omega), if_neg (mm_no (P := fun j => 0 ≤ x 20 r j ∧ x 20 r j < (if j % 2 = 0 then b else 3)) (j := j) (by omega) (by omega) (by split <;> omega))]; done) | (rw [show j = x 17 r 0 by omega] at ha; rw [if_neg (by omega), if_neg (by omega), if_pos ha])) rfl rfl)
            · skip
              refine g_iload_n F dX7_pairsFinding_36 rfl 1 rfl ?_
              refine g_goto F 41 dX7_pairsFinding_37 rfl ?_
              refine g_istore_n F [(3, .int (J (b))), (0, .ref (ad 6 (r))), (1, .int (J (b))), (2, .int (J (j)))] dX7_pairsFinding_41 rfl (by decide) rfl ?_
              refine g_aload_n F dX7_pairsFinding_42 rfl 1 rfl ?_
              refine ggN_Row_places F (by omega) fk_X7_72 dX7_pairsFinding_43 ?_
              refine g_iload_n F dX7_pairsFinding_46 rfl 3 rfl ?_
              refine ga_20 F (by omega) (by omega) dX7_pairsFinding_47 ?_
              refine g_if_lt 61 F dX7_pairsFinding_48 (hx j) rfl (fun c_7 => ?_) (fun c_7 => ?_)
              · skip
                refine g_iconst F dX7_pairsFinding_61 (3) (by decide) ?_
                exact g_ireturn F hR dX7_pairsFinding_62 (pI_i (by unfold pfU; first | (rw [if_pos (by omega)]; done) | (rw [if_neg (by omega), if_pos (by omega)]; done) | (rw [if_neg (by omega), if_neg (by omega), if_neg (mm_no (P := fun j => 0 ≤ x 20 r j ∧ x 20 r j < (if j % 2 = 0 then b else 3)) (j := j) (by omega) (by omega) (by split <;> omega))]; done) | (rw [show j = x 17 r 0 by omega] at ha; rw [if_neg (by omega), if_neg (by omega), if_pos ha])) rfl rfl)
              · skip
                refine g_aload_n F dX7_pairsFinding_51 rfl 1 rfl ?_
                refine ggN_Row_places F (by omega) fk_X7_72 dX7_pairsFinding_52 ?_
                refine g_iload_n F dX7_pairsFinding_55 rfl 3 rfl ?_
                refine ga_20 F (by omega) (by omega) dX7_pairsFinding_56 ?_
                refine g_iload_n F dX7_pairsFinding_57 rfl 0 rfl ?_
                refine g_icmp_lt 63 F dX7_pairsFinding_58 (hx j) (by omega) rfl (fun c_8 => ?_) (fun c_8 => ?_)
                · skip
                  refine g_iinc F [(2, .int (J (j + 1))), (3, .int (J (b))), (0, .ref (ad 6 (r))), (1, .int (J (b)))] 3 rfl dX7_pairsFinding_63 (by decide) rfl ?_
                  refine g_goto F 22 dX7_pairsFinding_66 rfl ?_
                  refine g_sub [2, 3, 0] (lv' := [(0, .ref (ad 6 (r))), (1, .int (J (b))), (2, .int (J (j + 1)))]) rfl ?_
                  exact ih22 (j + 1) (by omega) ((mm_s (f := fun j => 0 ≤ x 20 r j ∧ x 20 r j < (if j % 2 = 0 then b else 3)) (by omega)).mpr ⟨ha, by split <;> omega⟩) (by omega)
                · skip
                  refine g_iconst F dX7_pairsFinding_61 (3) (by decide) ?_
                  exact g_ireturn F hR dX7_pairsFinding_62 (pI_i (by unfold pfU; first | (rw [if_pos (by omega)]; done) | (rw [if_neg (by omega), if_pos (by omega)]; done) | (rw [if_neg (by omega), if_neg (by omega), if_neg (mm_no (P := fun j => 0 ≤ x 20 r j ∧ x 20 r j < (if j % 2 = 0 then b else 3)) (j := j) (by omega) (by omega) (by split <;> omega))]; done) | (rw [show j = x 17 r 0 by omega] at ha; rw [if_neg (by omega), if_neg (by omega), if_pos ha])) rfl rfl)
      refine g_sub [1, 2, 0] (lv' := [(0, .ref (ad 6 (r))), (1, .int (J (b))), (2, .int (J (0)))]) rfl ?_
      exact L22 _ (0) (by omega) (rfl) (Nat.lt_succ_self _)
    · skip
      refine g_iconst F dX7_pairsFinding_18 (5) (by decide) ?_
      exact g_ireturn F hR dX7_pairsFinding_19 (pI_i (by unfold pfU; first | (rw [if_pos (by omega)]; done) | (rw [if_neg (by omega), if_pos (by omega)]; done) | (rw [if_neg (by omega), if_neg (by omega), if_neg (mm_no (P := fun j => 0 ≤ x 20 r j ∧ x 20 r j < (if j % 2 = 0 then b else 3)) (j := j) (by omega) (by omega) (by split <;> omega))]; done) | (rw [show j = x 17 r 0 by omega] at ha; rw [if_neg (by omega), if_neg (by omega), if_pos ha])) rfl rfl)
  · skip
    refine g_iconst F dX7_pairsFinding_7 (1) (by decide) ?_
    exact g_ireturn F hR dX7_pairsFinding_8 (pI_i (by unfold pfU; first | (rw [if_pos (by omega)]; done) | (rw [if_neg (by omega), if_pos (by omega)]; done) | (rw [if_neg (by omega), if_neg (by omega), if_neg (mm_no (P := fun j => 0 ≤ x 20 r j ∧ x 20 r j < (if j % 2 = 0 then b else 3)) (j := j) (by omega) (by omega) (by split <;> omega))]; done) | (rw [show j = x 17 r 0 by omega] at ha; rw [if_neg (by omega), if_neg (by omega), if_pos ha])) rfl rfl)

set_option maxRecDepth 20000 in
theorem c_X7_trialsRefusal (l : Launch) (D : gD) (ad : gA) (x : gX) (y : gY) (r : Int) (hr : i32 r) (hN : NOK x) (hRW : RWI x) : gC l D ad 2 yX7_trialsRefusal cX7_trialsRefusal 4 (some .int) [.ref (ad 7 (0)), .int (J (r))] x y (pI ((tRf x r).1) ((tRf x r).2) (y)) := by
  refine g_met RX7 rfl (by decide +kernel) [(0, .ref (ad 7 (0))), (1, .int (J (r)))] rfl (Nat.le_of_ble_eq_true rfl) (fun Θ F hR => ?_)
  refine g_aload_n F dX7_trialsRefusal_0 rfl 0 rfl ?_
  refine g_iload_n F dX7_trialsRefusal_1 rfl 1 rfl ?_
  refine g_callV 1 F (As := [.int (J (r))]) (st := []) (c_X7_rowRefusal l D ad x y (r) (by omega) (hN)) (gR_7) rfl mk_X7_221 ki_X7_rowRefusal kc_X7_rowRefusal (by decide +kernel) rfl (by decide) dX7_trialsRefusal_2 rfl (Nat.le_of_ble_eq_true rfl) (pI_k ?_)
  have hr1 := rRf_r x r
  refine g_istore_n F [(2, .int (J (rRf x (r)))), (0, .ref (ad 7 (0))), (1, .int (J (r)))] dX7_trialsRefusal_5 rfl (by decide) rfl ?_
  refine g_iload_n F dX7_trialsRefusal_6 rfl 0 rfl ?_
  refine g_if_eq 12 F dX7_trialsRefusal_7 (by omega) rfl (fun c_1 => ?_) (fun c_1 => ?_)
  · skip
    have hq := rRf_0 c_1
    have hw := hRW (r) (by omega) (by omega)
    have hw2 : -1 ≤ x 17 (r) 0 ∧ x 17 (r) 0 ≤ 60 := by have := hw.1; split at this <;> omega
    refine g_aload_n F dX7_trialsRefusal_12 rfl 1 rfl ?_
    refine gg_Day_rows F fk_X7_11 dX7_trialsRefusal_13 ?_
    refine g_iload_n F dX7_trialsRefusal_16 rfl 2 rfl ?_
    refine ga_30 F (by omega) dX7_trialsRefusal_17 ?_
    refine g_aload_n F dX7_trialsRefusal_18 rfl 1 rfl ?_
    refine gg_Day_court F fk_X7_28 dX7_trialsRefusal_19 ?_
    refine ggN_Court_size F fk_X7_121 dX7_trialsRefusal_22 ?_
    refine g_callS 2 F (As := [.ref (ad 6 (r)), .int (J (x 10 (0) (0)))]) (st := []) (c_X7_pairsFinding l D ad x y (r) (x 10 (0) (0)) (by omega) (by omega) (hw.1) (hw.2.1)) rfl mk_X7_344 ki_X7_pairsFinding kc_X7_pairsFinding (by decide +kernel) rfl (by decide) dX7_trialsRefusal_25 rfl (Nat.le_of_ble_eq_true rfl) (pI_k ?_)
    have hpf := pfU_r x r (x 10 0 0)
    refine g_istore_n F [(3, .int (J (pfU x (r) (x 10 (0) (0))))), (2, .int (J (rRf x (r)))), (0, .ref (ad 7 (0))), (1, .int (J (r)))] dX7_trialsRefusal_28 rfl (by decide) rfl ?_
    refine g_iload_n F dX7_trialsRefusal_29 rfl 0 rfl ?_
    refine g_if_ne 37 F dX7_trialsRefusal_30 (by omega) rfl (fun c_2 => ?_) (fun c_2 => ?_)
    · skip
      refine g_aload_n F dX7_trialsRefusal_37 rfl 2 rfl ?_
      refine g_iload_n F dX7_trialsRefusal_38 rfl 0 rfl ?_
      refine g_callV 1 F (As := [.int (J (pfU x (r) (x 10 (0) (0))))]) (st := []) (c_X7_found l D ad x y (pfU x (r) (x 10 (0) (0))) (by omega)) (gR_7) rfl mk_X7_90 ki_X7_found kc_X7_found (by decide +kernel) rfl (by decide) dX7_trialsRefusal_39 rfl (Nat.le_of_ble_eq_true rfl) (pI_k ?_)
      exact g_ireturn F hR dX7_trialsRefusal_42 (pI_i (by unfold tRf; (repeat' split) <;> first | rfl | (exfalso; omega)) (by unfold tRf; (repeat' split) <;> first | rfl | (exfalso; omega)) rfl)
    · skip
      refine g_iconst F dX7_trialsRefusal_33 (0) (by decide) ?_
      refine g_goto F 42 dX7_trialsRefusal_34 rfl ?_
      exact g_ireturn F hR dX7_trialsRefusal_42 (pI_i (by unfold tRf; (repeat' split) <;> first | rfl | (exfalso; omega)) (by unfold tRf; (repeat' split) <;> first | rfl | (exfalso; omega)) rfl)
  · skip
    refine g_iload_n F dX7_trialsRefusal_10 rfl 0 rfl ?_
    exact g_ireturn F hR dX7_trialsRefusal_11 (pI_i (by unfold tRf; (repeat' split) <;> first | rfl | (exfalso; omega)) (by unfold tRf; (repeat' split) <;> first | rfl | (exfalso; omega)) rfl)

set_option maxRecDepth 20000 in
theorem c_X7_suppositionRefusal (l : Launch) (D : gD) (ad : gA) (x : gX) (y : gY) (i r : Int) (hi : i32 i) (hr : i32 r) (hN : NOK x) (hRW : RWI x) : gC l D ad 2 yX7_suppositionRefusal cX7_suppositionRefusal 4 (some .int) [.ref (ad 7 (0)), .int (J (i)), .int (J (r))] x y (pI ((vRf x i r).1) ((vRf x i r).2) (y)) := by
  refine g_met RX7 rfl (by decide +kernel) [(0, .ref (ad 7 (0))), (1, .int (J (i))), (2, .int (J (r)))] rfl (Nat.le_of_ble_eq_true rfl) (fun Θ F hR => ?_)
  refine g_aload_n F dX7_suppositionRefusal_0 rfl 0 rfl ?_
  refine g_iload_n F dX7_suppositionRefusal_1 rfl 1 rfl ?_
  refine g_callV 1 F (As := [.int (J (i))]) (st := []) (c_X7_isMan l D ad x y (i) (by omega) (hN)) (gR_7) rfl mk_X7_122 ki_X7_isMan kc_X7_isMan (by decide +kernel) rfl (by decide) dX7_suppositionRefusal_2 rfl (Nat.le_of_ble_eq_true rfl) (pB_k ?_)
  refine g_ifb_eq 19 F dX7_suppositionRefusal_5 rfl (fun c_1 => ?_) (fun c_1 => ?_)
  · skip
    refine g_iconst F dX7_suppositionRefusal_19 (-1) (by decide) ?_
    exact g_ireturn F hR dX7_suppositionRefusal_20 (pI_i (by unfold vRf; (repeat' split) <;> first | rfl | (exfalso; omega)) (by unfold vRf; (repeat' split) <;> first | rfl | (exfalso; omega)) rfl)
  · skip
    refine g_aload_n F dX7_suppositionRefusal_8 rfl 0 rfl ?_
    refine gg_Day_rows F fk_X7_11 dX7_suppositionRefusal_9 ?_
    refine g_iload_n F dX7_suppositionRefusal_12 rfl 2 rfl ?_
    refine g_callS 2 F (As := [.ref (ad 30 (0)), .int (J (r))]) (st := []) (c_X7_isOneOf_R l D ad x y (r) (by omega)) rfl mk_X7_86 ki_X7_isOneOf kc_X7_isOneOf (by decide +kernel) rfl (by decide) dX7_suppositionRefusal_13 rfl (Nat.le_of_ble_eq_true rfl) (pB_k ?_)
    refine g_ifb_ne 21 F dX7_suppositionRefusal_16 rfl (fun c_2 => ?_) (fun c_2 => ?_)
    · skip
      have hw := hRW (r) (by omega) (by omega)
      have hw2 : -1 ≤ x 17 (r) 0 ∧ x 17 (r) 0 ≤ 60 := by have := hw.1; split at this <;> omega
      refine g_aload_n F dX7_suppositionRefusal_21 rfl 0 rfl ?_
      refine gg_Day_rows F fk_X7_11 dX7_suppositionRefusal_22 ?_
      refine g_iload_n F dX7_suppositionRefusal_25 rfl 2 rfl ?_
      refine ga_30 F (by omega) dX7_suppositionRefusal_26 ?_
      refine g_bipush F dX7_suppositionRefusal_27 (31) (by decide) ?_
      refine g_callS 2 F (As := [.ref (ad 6 (r)), .int (J (31))]) (st := []) (c_X7_pairsFinding l D ad x y (r) (31) (by omega) (by omega) (hw.1) (hw.2.1)) rfl mk_X7_344 ki_X7_pairsFinding kc_X7_pairsFinding (by decide +kernel) rfl (by decide) dX7_suppositionRefusal_29 rfl (Nat.le_of_ble_eq_true rfl) (pI_k ?_)
      have hpf := pfU_r x r 31
      refine g_istore_n F [(3, .int (J (pfU x (r) (31)))), (0, .ref (ad 7 (0))), (1, .int (J (i))), (2, .int (J (r)))] dX7_suppositionRefusal_32 rfl (by decide) rfl ?_
      refine g_iload_n F dX7_suppositionRefusal_33 rfl 0 rfl ?_
      refine g_if_ne 41 F dX7_suppositionRefusal_34 (by omega) rfl (fun c_3 => ?_) (fun c_3 => ?_)
      · skip
        refine g_aload_n F dX7_suppositionRefusal_41 rfl 1 rfl ?_
        refine g_iload_n F dX7_suppositionRefusal_42 rfl 0 rfl ?_
        refine g_callV 1 F (As := [.int (J (pfU x (r) (31)))]) (st := []) (c_X7_found l D ad x y (pfU x (r) (31)) (by omega)) (gR_7) rfl mk_X7_90 ki_X7_found kc_X7_found (by decide +kernel) rfl (by decide) dX7_suppositionRefusal_43 rfl (Nat.le_of_ble_eq_true rfl) (pI_k ?_)
        exact g_ireturn F hR dX7_suppositionRefusal_46 (pI_i (by unfold vRf; (repeat' split) <;> first | rfl | (exfalso; omega)) (by unfold vRf; (repeat' split) <;> first | rfl | (exfalso; omega)) rfl)
      · skip
        refine g_iconst F dX7_suppositionRefusal_37 (0) (by decide) ?_
        refine g_goto F 46 dX7_suppositionRefusal_38 rfl ?_
        exact g_ireturn F hR dX7_suppositionRefusal_46 (pI_i (by unfold vRf; (repeat' split) <;> first | rfl | (exfalso; omega)) (by unfold vRf; (repeat' split) <;> first | rfl | (exfalso; omega)) rfl)
    · skip
      refine g_iconst F dX7_suppositionRefusal_19 (-1) (by decide) ?_
      exact g_ireturn F hR dX7_suppositionRefusal_20 (pI_i (by unfold vRf; (repeat' split) <;> first | rfl | (exfalso; omega)) (by unfold vRf; (repeat' split) <;> first | rfl | (exfalso; omega)) rfl)

set_option maxRecDepth 20000 in
theorem c_X7_fits (l : Launch) (D : gD) (ad : gA) (x : gX) (y : gY) (r : Int) (hr : i32 r) (hV : INV x) : gC l D ad 6 yX7_fits cX7_fits 4 (some .int) [.ref (ad 7 (0)), .int (J (r))] x y (pI ((sFits x r).1) ((sFits x r).2) (y)) := by
  refine g_met RX7 rfl (by decide +kernel) [(0, .ref (ad 7 (0))), (1, .int (J (r)))] rfl (Nat.le_of_ble_eq_true rfl) (fun Θ F hR => ?_)
  obtain ⟨hN, hRW, hDD, hCU, hMS⟩ := hV
  refine g_aload_n F dX7_fits_0 rfl 0 rfl ?_
  refine g_iload_n F dX7_fits_1 rfl 1 rfl ?_
  refine g_callV 1 F (As := [.int (J (r))]) (st := []) (c_X7_trialsRefusal l D ad x y (r) (by omega) (by omega) (hRW)) (gR_7) rfl mk_X7_248 ki_X7_trialsRefusal kc_X7_trialsRefusal (by decide +kernel) rfl (by decide) dX7_fits_2 rfl (Nat.le_of_ble_eq_true rfl) (pI_k ?_)
  have hr1 := tRf_r x r
  refine g_istore_n F [(2, .int (J ((tRf x (r)).1))), (0, .ref (ad 7 (0))), (1, .int (J (r)))] dX7_fits_5 rfl (by decide) rfl ?_
  refine g_iload_n F dX7_fits_6 rfl 0 rfl ?_
  refine g_if_eq 12 F dX7_fits_7 (by omega) rfl (fun c_1 => ?_) (fun c_1 => ?_)
  · skip
    have hq := tRf_0 c_1
    have hw := hRW (r) (by omega) (by omega)
    have hw2 : -1 ≤ x 17 (r) 0 ∧ x 17 (r) 0 ≤ 60 := by have := hw.1; split at this <;> omega
    have hp0 := pfU_0 hq.2.2.1
    have hp2 := paP_2 (by omega) hp0.2.2
    refine g_mx (X := x) (hq.2.2.2) ?_
    refine g_aload_n F dX7_fits_12 rfl 1 rfl ?_
    refine gg_Day_court F fk_X7_28 dX7_fits_13 ?_
    refine g_aload_n F dX7_fits_16 rfl 1 rfl ?_
    refine gg_Day_rows F fk_X7_11 dX7_fits_17 ?_
    refine g_iload_n F dX7_fits_20 rfl 2 rfl ?_
    refine ga_30 F (by omega) dX7_fits_21 ?_
    refine g_callV 1 F (As := [.ref (ad 6 (r))]) (st := []) (c_X0_heatsFitting l D ad x y (r) (by omega) (by omega) (by have := hw.1; omega) (hp2)) (gR_0) rfl mk_X7_251 ki_X0_heatsFitting kc_X0_heatsFitting (by decide +kernel) rfl (by decide) dX7_fits_22 rfl (Nat.le_of_ble_eq_true rfl) (pI_k ?_)
    refine g_istore_n F [(3, .int (J (ftU x (r)))), (2, .int (J ((tRf x (r)).1))), (0, .ref (ad 7 (0))), (1, .int (J (r)))] dX7_fits_25 rfl (by decide) rfl ?_
    refine g_aload_n F dX7_fits_26 rfl 2 rfl ?_
    refine g_iload_n F dX7_fits_27 rfl 0 rfl ?_
    refine g_callS 1 F (As := [.int (J (ftU x (r)))]) (st := [.ref (ad 7 (0))]) (c_bitc l D ad x y (ftU x (r)) (bits_31)) rfl mk_X7_254 ki_J6_bitCount_0f7a4 kc_J6_bitCount_0f7a4 (by decide +kernel) rfl (by decide) dX7_fits_28 rfl (Nat.le_of_ble_eq_true rfl) (pI_k ?_)
    refine gp_Day_told F fk_X7_75 dX7_fits_31 ?_
    refine g_iload_n F dX7_fits_34 rfl 0 rfl ?_
    exact g_ireturn F hR dX7_fits_35 (pI_i (by unfold sFits; (repeat' split) <;> first | rfl | (exfalso; omega)) (by unfold sFits; (repeat' split) <;> first | rfl | (exfalso; omega)) rfl)
  · skip
    refine g_iload_n F dX7_fits_10 rfl 0 rfl ?_
    exact g_ireturn F hR dX7_fits_11 (pI_i (by unfold sFits; (repeat' split) <;> first | rfl | (exfalso; omega)) (by unfold sFits; (repeat' split) <;> first | rfl | (exfalso; omega)) rfl)

set_option maxRecDepth 20000 in
theorem c_X7_ask (l : Launch) (D : gD) (ad : gA) (x : gX) (y : gY) (r : Int) (hr : i32 r) (hV : INV x) : gC l D ad 6 yX7_ask cX7_ask 8 (some .int) [.ref (ad 7 (0)), .int (J (r))] x y (pI ((sAsk x r).1) ((sAsk x r).2) (y)) := by
  refine g_met RX7 rfl (by decide +kernel) [(0, .ref (ad 7 (0))), (1, .int (J (r)))] rfl (Nat.le_of_ble_eq_true rfl) (fun Θ F hR => ?_)
  obtain ⟨hN, hRW, hDD, hCU, hMS⟩ := hV
  refine g_aload_n F dX7_ask_0 rfl 0 rfl ?_
  refine g_iload_n F dX7_ask_1 rfl 1 rfl ?_
  refine g_callV 1 F (As := [.int (J (r))]) (st := []) (c_X7_trialsRefusal l D ad x y (r) (by omega) (by omega) (hRW)) (gR_7) rfl mk_X7_248 ki_X7_trialsRefusal kc_X7_trialsRefusal (by decide +kernel) rfl (by decide) dX7_ask_2 rfl (Nat.le_of_ble_eq_true rfl) (pI_k ?_)
  have hr1 := tRf_r x r
  refine g_istore_n F [(2, .int (J ((tRf x (r)).1))), (0, .ref (ad 7 (0))), (1, .int (J (r)))] dX7_ask_5 rfl (by decide) rfl ?_
  refine g_iload_n F dX7_ask_6 rfl 0 rfl ?_
  refine g_if_eq 12 F dX7_ask_7 (by omega) rfl (fun c_1 => ?_) (fun c_1 => ?_)
  · skip
    have hq := tRf_0 c_1
    have hw := hRW (r) (by omega) (by omega)
    have hw2 : -1 ≤ x 17 (r) 0 ∧ x 17 (r) 0 ≤ 60 := by have := hw.1; split at this <;> omega
    have hp0 := pfU_0 hq.2.2.1
    have hp2 := paP_2 (by omega) hp0.2.2
    refine g_mx (X := x) (hq.2.2.2) ?_
    refine g_aload_n F dX7_ask_12 rfl 1 rfl ?_
    refine gg_Day_court F fk_X7_28 dX7_ask_13 ?_
    refine g_aload_n F dX7_ask_16 rfl 1 rfl ?_
    refine gg_Day_rows F fk_X7_11 dX7_ask_17 ?_
    refine g_iload_n F dX7_ask_20 rfl 2 rfl ?_
    refine ga_30 F (by omega) dX7_ask_21 ?_
    refine g_callV 1 F (As := [.ref (ad 6 (r))]) (st := []) (c_X0_heatsFitting l D ad x y (r) (by omega) (by omega) (by have := hw.1; omega) (hp2)) (gR_0) rfl mk_X7_251 ki_X0_heatsFitting kc_X0_heatsFitting (by decide +kernel) rfl (by decide) dX7_ask_22 rfl (Nat.le_of_ble_eq_true rfl) (pI_k ?_)
    refine g_istore_n F [(3, .int (J (ftU x (r)))), (2, .int (J ((tRf x (r)).1))), (0, .ref (ad 7 (0))), (1, .int (J (r)))] dX7_ask_25 rfl (by decide) rfl ?_
    have hft : 0 ≤ ftU x r ∧ ftU x r < 2147483648 := bits_31
    refine g_iload_n F dX7_ask_26 rfl 0 rfl ?_
    refine g_if_ne 33 F dX7_ask_27 (by omega) rfl (fun c_2 => ?_) (fun c_2 => ?_)
    · skip
      refine g_iconst F dX7_ask_33 (0) (by decide) ?_
      refine g_istore F [(4, .int (J (0))), (3, .int (J (ftU x (r)))), (2, .int (J ((tRf x (r)).1))), (0, .ref (ad 7 (0))), (1, .int (J (r)))] dX7_ask_34 (by decide) rfl ?_
      have hm0 := hN.2.2.2 0 (by omega) (by omega)
      refine g_aload_n F dX7_ask_36 rfl 3 rfl ?_
      refine gg_Day_court F fk_X7_28 dX7_ask_37 ?_
      refine g_aload_n F dX7_ask_40 rfl 3 rfl ?_
      refine gg_Day_court F fk_X7_28 dX7_ask_41 ?_
      refine ggN_Court_men F fk_X7_126 dX7_ask_44 ?_
      refine g_iconst F dX7_ask_47 (0) (by decide) ?_
      refine ga_32 F (by decide) dX7_ask_48 ?_
      refine g_iload_n F dX7_ask_49 rfl 1 rfl ?_
      refine g_callV 2 F (As := [.ref (ad 3 (0)), .int (J (ftU x (r)))]) (st := []) (c_X0_greatestPart l D ad x y (0) (ftU x (r)) (by omega) (by omega) (hm0) (hft)) (gR_0) rfl mk_X7_259 ki_X0_greatestPart kc_X0_greatestPart (by decide +kernel) rfl (by decide) dX7_ask_50 rfl (Nat.le_of_ble_eq_true rfl) (pI_k ?_)
      have hg0 := gpU_r x 0 (ftU x r)
      refine g_istore F [(5, .int (J (gpU x (0) (ftU x (r))))), (4, .int (J (0))), (3, .int (J (ftU x (r)))), (2, .int (J ((tRf x (r)).1))), (0, .ref (ad 7 (0))), (1, .int (J (r)))] dX7_ask_53 (by decide) rfl ?_
      refine g_iconst F dX7_ask_55 (1) (by decide) ?_
      refine g_istore F [(6, .int (J (1))), (5, .int (J (gpU x (0) (ftU x (r))))), (4, .int (J (0))), (3, .int (J (ftU x (r)))), (2, .int (J ((tRf x (r)).1))), (0, .ref (ad 7 (0))), (1, .int (J (r)))] dX7_ask_56 (by decide) rfl ?_
      have L58 : ∀ (N : Nat) (b : Int) (a : Int) (j : Int), 1 ≤ j ∧ j ≤ x 10 0 0 → (0 ≤ a ∧ a ≤ 31) ∧ 0 ≤ b ∧ b ≤ 6 → bsN (fun i => gpU x i (ftU x r)) (j - 1).toNat = (b, a) → (x 10 0 0 - j).toNat < N → gW Θ l D ad 8 58 [(0, .ref (ad 7 (0))), (3, .int (J (ftU x r))), (4, .int (J (b))), (5, .int (J (a))), (6, .int (J (j)))] [] x y := by
        intro N
        induction N with
        | zero => intro b a j hj hr2 ha hFu; omega
        | succ N ih58 =>
          intro b a j hj hr2 ha hFu
          refine g_iload F dX7_ask_58 4 rfl ?_
          refine g_aload_n F dX7_ask_60 rfl 0 rfl ?_
          refine gg_Day_court F fk_X7_28 dX7_ask_61 ?_
          refine ggN_Court_size F fk_X7_121 dX7_ask_64 ?_
          refine g_icmp_ge 111 F dX7_ask_67 (by omega) (by omega) rfl (fun c_3 => ?_) (fun c_3 => ?_)
          · skip
            refine g_aload_n F dX7_ask_111 rfl 0 rfl ?_
            refine g_iload F dX7_ask_112 3 rfl ?_
            refine gp_Day_told F fk_X7_75 dX7_ask_114 ?_
            refine g_iload F dX7_ask_117 2 rfl ?_
            exact g_ireturn F hR dX7_ask_119 (pI_i (by unfold sAsk; first | (rw [if_pos (by omega)]; done) | (rw [if_neg (by omega), if_pos (by omega)]; done) | (rw [show j = x 10 0 0 by omega] at ha; rw [if_neg (by omega), if_neg (by omega), ha])) (by unfold sAsk; first | (rw [if_pos (by omega)]; done) | (rw [if_neg (by omega), if_pos (by omega)]; done) | (rw [show j = x 10 0 0 by omega] at ha; rw [if_neg (by omega), if_neg (by omega), ha])) rfl)
          · skip
            have hm := hN.2.2.2 j (by omega) (by omega)
            refine g_aload_n F dX7_ask_70 rfl 0 rfl ?_
            refine gg_Day_court F fk_X7_28 dX7_ask_71 ?_
            refine g_aload_n F dX7_ask_74 rfl 0 rfl ?_
            refine gg_Day_court F fk_X7_28 dX7_ask_75 ?_
            refine ggN_Court_men F fk_X7_126 dX7_ask_78 ?_
            refine g_iload F dX7_ask_81 4 rfl ?_
            refine ga_32 F (by omega) dX7_ask_83 ?_
            refine g_iload_n F dX7_ask_84 rfl 1 rfl ?_
            refine g_callV 2 F (As := [.ref (ad 3 (j)), .int (J (ftU x r))]) (st := []) (c_X0_greatestPart l D ad x y (j) (ftU x r) (by omega) (by omega) (hm) (hft)) (gR_0) rfl mk_X7_259 ki_X0_greatestPart kc_X0_greatestPart (by decide +kernel) rfl (by decide) dX7_ask_85 rfl (Nat.le_of_ble_eq_true rfl) (pI_k ?_)
            have hgj := gpU_r x j (ftU x r)
            refine g_istore F [(7, .int (J (gpU x (j) (ftU x r)))), (0, .ref (ad 7 (0))), (3, .int (J (ftU x r))), (4, .int (J (b))), (5, .int (J (a))), (6, .int (J (j)))] dX7_ask_88 (by decide) rfl ?_
            refine g_iload F dX7_ask_90 0 rfl ?_
            refine g_iload F dX7_ask_92 4 rfl ?_
            refine g_icmp_ge 105 F dX7_ask_94 (by omega) (by omega) rfl (fun c_4 => ?_) (fun c_4 => ?_)
            · skip
              refine g_iinc F [(6, .int (J (j + 1))), (7, .int (J (gpU x (j) (ftU x r)))), (0, .ref (ad 7 (0))), (3, .int (J (ftU x r))), (4, .int (J (b))), (5, .int (J (a)))] 5 rfl dX7_ask_105 (by decide) rfl ?_
              refine g_goto F 58 dX7_ask_108 rfl ?_
              refine g_sub [2, 3, 4, 5, 0] (lv' := [(0, .ref (ad 7 (0))), (3, .int (J (ftU x r))), (4, .int (J (b))), (5, .int (J (a))), (6, .int (J (j + 1)))]) rfl ?_
              exact ih58 (b) (a) (j + 1) (by omega) (by omega) (by rw [bsN_s _ (by omega), ha]; first | (rw [if_pos (by show gpU x j (ftU x r) < a; omega)]; done) | (rw [if_neg (by show ¬ gpU x j (ftU x r) < a; omega)]; done)) (by omega)
            · skip
              refine g_iload F dX7_ask_97 0 rfl ?_
              refine g_istore F [(5, .int (J (gpU x (j) (ftU x r)))), (7, .int (J (gpU x (j) (ftU x r)))), (0, .ref (ad 7 (0))), (3, .int (J (ftU x r))), (4, .int (J (b))), (6, .int (J (j)))] dX7_ask_99 (by decide) rfl ?_
              refine g_iload F dX7_ask_101 5 rfl ?_
              refine g_istore F [(4, .int (J (j))), (5, .int (J (gpU x (j) (ftU x r)))), (7, .int (J (gpU x (j) (ftU x r)))), (0, .ref (ad 7 (0))), (3, .int (J (ftU x r))), (6, .int (J (j)))] dX7_ask_103 (by decide) rfl ?_
              refine g_iinc F [(6, .int (J (j + 1))), (4, .int (J (j))), (5, .int (J (gpU x (j) (ftU x r)))), (7, .int (J (gpU x (j) (ftU x r)))), (0, .ref (ad 7 (0))), (3, .int (J (ftU x r)))] 5 rfl dX7_ask_105 (by decide) rfl ?_
              refine g_goto F 58 dX7_ask_108 rfl ?_
              refine g_sub [4, 5, 1, 2, 0] (lv' := [(0, .ref (ad 7 (0))), (3, .int (J (ftU x r))), (4, .int (J (j))), (5, .int (J (gpU x (j) (ftU x r)))), (6, .int (J (j + 1)))]) rfl ?_
              exact ih58 (j) (gpU x (j) (ftU x r)) (j + 1) (by omega) (by omega) (by rw [bsN_s _ (by omega), ha]; first | (rw [if_pos (by show gpU x j (ftU x r) < a; omega)]; done) | (rw [if_neg (by show ¬ gpU x j (ftU x r) < a; omega)]; done)) (by omega)
      refine g_sub [5, 3, 2, 1, 0] (lv' := [(0, .ref (ad 7 (0))), (3, .int (J (ftU x (r)))), (4, .int (J (0))), (5, .int (J (gpU x (0) (ftU x (r))))), (6, .int (J (1)))]) rfl ?_
      exact L58 _ (0) (gpU x (0) (ftU x (r))) (1) (by omega) (by omega) (rfl) (Nat.lt_succ_self _)
    · skip
      refine g_bipush F dX7_ask_30 (-9) (by decide) ?_
      exact g_ireturn F hR dX7_ask_32 (pI_i (by unfold sAsk; first | (rw [if_pos (by omega)]; done) | (rw [if_neg (by omega), if_pos (by omega)]; done) | (rw [show j = x 10 0 0 by omega] at ha; rw [if_neg (by omega), if_neg (by omega), ha])) (by unfold sAsk; first | (rw [if_pos (by omega)]; done) | (rw [if_neg (by omega), if_pos (by omega)]; done) | (rw [show j = x 10 0 0 by omega] at ha; rw [if_neg (by omega), if_neg (by omega), ha])) rfl)
  · skip
    refine g_iload_n F dX7_ask_10 rfl 0 rfl ?_
    exact g_ireturn F hR dX7_ask_11 (pI_i (by unfold sAsk; first | (rw [if_pos (by omega)]; done) | (rw [if_neg (by omega), if_pos (by omega)]; done) | (rw [show j = x 10 0 0 by omega] at ha; rw [if_neg (by omega), if_neg (by omega), ha])) (by unfold sAsk; first | (rw [if_pos (by omega)]; done) | (rw [if_neg (by omega), if_pos (by omega)]; done) | (rw [show j = x 10 0 0 by omega] at ha; rw [if_neg (by omega), if_neg (by omega), ha])) rfl)

set_option maxRecDepth 20000 in
theorem c_X7_hands (l : Launch) (D : gD) (ad : gA) (x : gX) (y : gY) (i r : Int) (hi : i32 i) (hr : i32 r) (hV : INV x) : gC l D ad 5 yX7_hands cX7_hands 7 (some .int) [.ref (ad 7 (0)), .int (J (i)), .int (J (r))] x y (pG (.int (J ((sHands x i r).1))) (fun u => xG (sHands x i r).2 u) (y)) := by
  refine g_met RX7 rfl (by decide +kernel) [(0, .ref (ad 7 (0))), (1, .int (J (i))), (2, .int (J (r)))] rfl (Nat.le_of_ble_eq_true rfl) (fun Θ F hR => ?_)
  obtain ⟨hN, hRW, hDD, hCU, hMS⟩ := hV
  refine g_aload_n F dX7_hands_0 rfl 0 rfl ?_
  refine g_iload_n F dX7_hands_1 rfl 1 rfl ?_
  refine g_iload_n F dX7_hands_2 rfl 2 rfl ?_
  refine g_callV 2 F (As := [.int (J (i)), .int (J (r))]) (st := []) (c_X7_suppositionRefusal l D ad x y (i) (r) (by omega) (by omega) (by omega) (hRW)) (gR_7) rfl mk_X7_262 ki_X7_suppositionRefusal kc_X7_suppositionRefusal (by decide +kernel) rfl (by decide) dX7_hands_3 rfl (Nat.le_of_ble_eq_true rfl) (pI_k ?_)
  have hr1 := vRf_r x i r
  refine g_istore_n F [(3, .int (J ((vRf x (i) (r)).1))), (0, .ref (ad 7 (0))), (1, .int (J (i))), (2, .int (J (r)))] dX7_hands_6 rfl (by decide) rfl ?_
  refine g_iload_n F dX7_hands_7 rfl 0 rfl ?_
  refine g_if_eq 13 F dX7_hands_8 (by omega) rfl (fun c_1 => ?_) (fun c_1 => ?_)
  · skip
    have hq := vRf_0 c_1
    have hw := hRW (r) (by omega) (by omega)
    have hw2 : -1 ≤ x 17 (r) 0 ∧ x 17 (r) 0 ≤ 60 := by have := hw.1; split at this <;> omega
    have hp0 := pfU_0 hq.2.1
    have hp2 := paP_2 (by omega) hp0.2.2
    have hm := hN.2.2.2 i (by omega) (by omega)
    refine g_mx (X := x) (hq.2.2) ?_
    refine g_aload_n F dX7_hands_13 rfl 1 rfl ?_
    refine gg_Day_court F fk_X7_28 dX7_hands_14 ?_
    refine g_aload_n F dX7_hands_17 rfl 1 rfl ?_
    refine gg_Day_court F fk_X7_28 dX7_hands_18 ?_
    refine ggN_Court_men F fk_X7_126 dX7_hands_21 ?_
    refine g_iload_n F dX7_hands_24 rfl 2 rfl ?_
    refine ga_32 F (by omega) dX7_hands_25 ?_
    refine g_callV 1 F (As := [.ref (ad 3 (i))]) (st := []) (c_X0_likeOf l D ad x y (i) (by omega)) (gR_0) rfl mk_X7_265 ki_X0_likeOf kc_X0_likeOf (by decide +kernel) rfl (by decide) dX7_hands_26 rfl (Nat.le_of_ble_eq_true rfl) (pR_k ?_)
    refine g_astore F [(4, .ref (ad 3 (6))), (3, .int (J ((vRf x (i) (r)).1))), (0, .ref (ad 7 (0))), (1, .int (J (i))), (2, .int (J (r)))] dX7_hands_29 (by decide) rfl ?_
    refine g_iconst F dX7_hands_31 (0) (by decide) ?_
    refine g_istore F [(5, .int (J (0))), (4, .ref (ad 3 (6))), (3, .int (J ((vRf x (i) (r)).1))), (0, .ref (ad 7 (0))), (1, .int (J (i))), (2, .int (J (r)))] dX7_hands_32 (by decide) rfl ?_
    refine g_iconst F dX7_hands_34 (0) (by decide) ?_
    refine g_istore F [(6, .int (J (0))), (5, .int (J (0))), (4, .ref (ad 3 (6))), (3, .int (J ((vRf x (i) (r)).1))), (0, .ref (ad 7 (0))), (1, .int (J (i))), (2, .int (J (r)))] dX7_hands_35 (by decide) rfl ?_
    have L37 : ∀ (N : Nat) (v : Int) (a : Int) (j : Int), 0 ≤ j ∧ j ≤ 10 → a = bitsZ (fun j => wkP x i (x 1 i 0) j r) j → (10 - j).toNat < N → gW Θ l D ad 7 37 [(0, .ref (ad 7 (0))), (2, .int (J (r))), (4, .ref (ad 3 (6))), (5, .int (J (a))), (6, .int (J (j)))] [] (lkM x i 4 v) y := by
      intro N
      induction N with
      | zero => intro v a j hj ha hFu; omega
      | succ N ih37 =>
        intro v a j hj ha hFu
        refine g_iload F dX7_hands_37 4 rfl ?_
        refine g_bipush F dX7_hands_39 (10) (by decide) ?_
        refine g_icmp_ge 88 F dX7_hands_41 (by omega) (by decide) rfl (fun c_2 => ?_) (fun c_2 => ?_)
        · skip
          refine g_iload F dX7_hands_88 3 rfl ?_
          exact g_ireturn F hR dX7_hands_90 (pG_z (by unfold sHands; first | (rw [if_pos (by omega)]; done) | (rw [if_neg (by omega)]; exact ha.trans (by rw [show j = 10 by omega]))) (by unfold sHands; (repeat' split) <;> first | exact xG_rf _ | exact xG_lk x (by decide) | (exfalso; omega)) rfl)
        · skip
          refine g_aload F dX7_hands_44 2 rfl ?_
          refine g_iload F dX7_hands_46 4 rfl ?_
          refine gpN_Man_hand F (by decide) fk_X7_268 dX7_hands_48 ?_
          refine g_mx (X := lkM x i 4 j) (lkM_u x i 4 v j) ?_
          refine g_iload F dX7_hands_51 3 rfl ?_
          refine g_aload_n F dX7_hands_53 rfl 0 rfl ?_
          refine gg_Day_court F fk_X7_28 dX7_hands_54 ?_
          refine g_aload F dX7_hands_57 2 rfl ?_
          refine g_aload_n F dX7_hands_59 rfl 0 rfl ?_
          refine gg_Day_rows F fk_X7_11 dX7_hands_60 ?_
          refine g_iload_n F dX7_hands_63 rfl 1 rfl ?_
          refine ga_30 F (by omega) dX7_hands_64 ?_
          have ra := bitZ_r (P := fun j => wkP x i (x 1 i 0) j r) (n := j) (by omega)
          refine g_callV 2 F (As := [.ref (ad 3 (6)), .ref (ad 6 (r))]) (st := [.int (J (a))]) (c_X0_wouldTell l D ad (lkM x i 4 j) y (6) (r) (by omega) (by omega) (NOK_lk (by decide) hN) (MOK_lk (by omega) hm hMS (by omega)) (by have := hw.1; exact ⟨this.1, this.2, hp0.2.1⟩) (fun q h0 h1 => by have := hp2 q h0 h1; show 0 ≤ x 20 r (2 * q) ∧ x 20 r (2 * q) ≤ 30; omega) (hw.2.1)) (gR_0) rfl mk_X7_271 ki_X0_wouldTell kc_X0_wouldTell (by decide +kernel) rfl (by decide) dX7_hands_65 rfl (Nat.le_of_ble_eq_true rfl) (pB_k ?_)
          refine g_ifb_eq 78 F dX7_hands_68 rfl (fun c_3 => ?_) (fun c_3 => ?_)
          · skip
            have hwk : ¬ wkP x i (x 1 i 0) j r := c_3
            refine g_iconst F dX7_hands_78 (0) (by decide) ?_
            refine g_ior F dX7_hands_79 (a) (J_or0 _) ?_
            refine g_istore F [(5, .int (J (a))), (0, .ref (ad 7 (0))), (2, .int (J (r))), (4, .ref (ad 3 (6))), (6, .int (J (j)))] dX7_hands_80 (by decide) rfl ?_
            refine g_iinc F [(6, .int (J (j + 1))), (5, .int (J (a))), (0, .ref (ad 7 (0))), (2, .int (J (r))), (4, .ref (ad 3 (6)))] 4 rfl dX7_hands_82 (by decide) rfl ?_
            refine g_goto F 37 dX7_hands_85 rfl ?_
            refine g_sub [2, 3, 4, 1, 0] (lv' := [(0, .ref (ad 7 (0))), (2, .int (J (r))), (4, .ref (ad 3 (6))), (5, .int (J (a))), (6, .int (J (j + 1)))]) rfl ?_
            exact ih37 (j) (a) (j + 1) (by omega) (by rw [ha]; first | exact (bitsZ_y (P := fun j => wkP x i (x 1 i 0) j r) (by omega) hwk).symm | exact (bitsZ_n (P := fun j => wkP x i (x 1 i 0) j r) (by omega) hwk).symm) (by omega)
          · skip
            have hwk : wkP x i (x 1 i 0) j r := c_3
            refine g_iconst F dX7_hands_71 (1) (by decide) ?_
            refine g_iload F dX7_hands_72 4 rfl ?_
            refine g_ishl F dX7_hands_74 (p2 (j)) (J_shl (by omega)) ?_
            refine g_goto F 79 dX7_hands_75 rfl ?_
            refine g_ior F dX7_hands_79 (a + p2 j) (J_or (by rw [ha]; exact ra.1) (by rw [ha]; exact ra.2) (by omega)) ?_
            refine g_istore F [(5, .int (J (a + p2 j))), (0, .ref (ad 7 (0))), (2, .int (J (r))), (4, .ref (ad 3 (6))), (6, .int (J (j)))] dX7_hands_80 (by decide) rfl ?_
            refine g_iinc F [(6, .int (J (j + 1))), (5, .int (J (a + p2 j))), (0, .ref (ad 7 (0))), (2, .int (J (r))), (4, .ref (ad 3 (6)))] 4 rfl dX7_hands_82 (by decide) rfl ?_
            refine g_goto F 37 dX7_hands_85 rfl ?_
            refine g_sub [2, 3, 4, 1, 0] (lv' := [(0, .ref (ad 7 (0))), (2, .int (J (r))), (4, .ref (ad 3 (6))), (5, .int (J (a + p2 j))), (6, .int (J (j + 1)))]) rfl ?_
            exact ih37 (j) (a + p2 j) (j + 1) (by omega) (by rw [ha]; first | exact (bitsZ_y (P := fun j => wkP x i (x 1 i 0) j r) (by omega) hwk).symm | exact (bitsZ_n (P := fun j => wkP x i (x 1 i 0) j r) (by omega) hwk).symm) (by omega)
    refine g_sub [4, 6, 2, 1, 0] (lv' := [(0, .ref (ad 7 (0))), (2, .int (J (r))), (4, .ref (ad 3 (6))), (5, .int (J (0))), (6, .int (J (0)))]) rfl ?_
    exact gW_eq (L37 _ (x 4 i 0) (0) (0) (by omega) (rfl) (Nat.lt_succ_self _)) rfl rfl rfl (lkM_0 x i 4 (by decide)) (rfl)
  · skip
    refine g_iload_n F dX7_hands_11 rfl 0 rfl ?_
    exact g_ireturn F hR dX7_hands_12 (pG_z (by unfold sHands; first | (rw [if_pos (by omega)]; done) | (rw [if_neg (by omega)]; exact ha.trans (by rw [show j = 10 by omega]))) (by unfold sHands; (repeat' split) <;> first | exact xG_rf _ | exact xG_lk x (by decide) | (exfalso; omega)) rfl)

set_option maxRecDepth 20000 in
theorem c_X7_kinds (l : Launch) (D : gD) (ad : gA) (x : gX) (y : gY) (i r : Int) (hi : i32 i) (hr : i32 r) (hV : INV x) : gC l D ad 5 yX7_kinds cX7_kinds 7 (some .int) [.ref (ad 7 (0)), .int (J (i)), .int (J (r))] x y (pG (.int (J ((sKinds x i r).1))) (fun u => xG (sKinds x i r).2 u) (y)) := by
  refine g_met RX7 rfl (by decide +kernel) [(0, .ref (ad 7 (0))), (1, .int (J (i))), (2, .int (J (r)))] rfl (Nat.le_of_ble_eq_true rfl) (fun Θ F hR => ?_)
  obtain ⟨hN, hRW, hDD, hCU, hMS⟩ := hV
  refine g_aload_n F dX7_kinds_0 rfl 0 rfl ?_
  refine g_iload_n F dX7_kinds_1 rfl 1 rfl ?_
  refine g_iload_n F dX7_kinds_2 rfl 2 rfl ?_
  refine g_callV 2 F (As := [.int (J (i)), .int (J (r))]) (st := []) (c_X7_suppositionRefusal l D ad x y (i) (r) (by omega) (by omega) (by omega) (hRW)) (gR_7) rfl mk_X7_262 ki_X7_suppositionRefusal kc_X7_suppositionRefusal (by decide +kernel) rfl (by decide) dX7_kinds_3 rfl (Nat.le_of_ble_eq_true rfl) (pI_k ?_)
  have hr1 := vRf_r x i r
  refine g_istore_n F [(3, .int (J ((vRf x (i) (r)).1))), (0, .ref (ad 7 (0))), (1, .int (J (i))), (2, .int (J (r)))] dX7_kinds_6 rfl (by decide) rfl ?_
  refine g_iload_n F dX7_kinds_7 rfl 0 rfl ?_
  refine g_if_eq 13 F dX7_kinds_8 (by omega) rfl (fun c_1 => ?_) (fun c_1 => ?_)
  · skip
    have hq := vRf_0 c_1
    have hw := hRW (r) (by omega) (by omega)
    have hw2 : -1 ≤ x 17 (r) 0 ∧ x 17 (r) 0 ≤ 60 := by have := hw.1; split at this <;> omega
    have hp0 := pfU_0 hq.2.1
    have hp2 := paP_2 (by omega) hp0.2.2
    have hm := hN.2.2.2 i (by omega) (by omega)
    refine g_mx (X := x) (hq.2.2) ?_
    refine g_aload_n F dX7_kinds_13 rfl 1 rfl ?_
    refine gg_Day_court F fk_X7_28 dX7_kinds_14 ?_
    refine g_aload_n F dX7_kinds_17 rfl 1 rfl ?_
    refine gg_Day_court F fk_X7_28 dX7_kinds_18 ?_
    refine ggN_Court_men F fk_X7_126 dX7_kinds_21 ?_
    refine g_iload_n F dX7_kinds_24 rfl 2 rfl ?_
    refine ga_32 F (by omega) dX7_kinds_25 ?_
    refine g_callV 1 F (As := [.ref (ad 3 (i))]) (st := []) (c_X0_likeOf l D ad x y (i) (by omega)) (gR_0) rfl mk_X7_265 ki_X0_likeOf kc_X0_likeOf (by decide +kernel) rfl (by decide) dX7_kinds_26 rfl (Nat.le_of_ble_eq_true rfl) (pR_k ?_)
    refine g_astore F [(4, .ref (ad 3 (6))), (3, .int (J ((vRf x (i) (r)).1))), (0, .ref (ad 7 (0))), (1, .int (J (i))), (2, .int (J (r)))] dX7_kinds_29 (by decide) rfl ?_
    refine g_iconst F dX7_kinds_31 (0) (by decide) ?_
    refine g_istore F [(5, .int (J (0))), (4, .ref (ad 3 (6))), (3, .int (J ((vRf x (i) (r)).1))), (0, .ref (ad 7 (0))), (1, .int (J (i))), (2, .int (J (r)))] dX7_kinds_32 (by decide) rfl ?_
    refine g_iconst F dX7_kinds_34 (0) (by decide) ?_
    refine g_istore F [(6, .int (J (0))), (5, .int (J (0))), (4, .ref (ad 3 (6))), (3, .int (J ((vRf x (i) (r)).1))), (0, .ref (ad 7 (0))), (1, .int (J (i))), (2, .int (J (r)))] dX7_kinds_35 (by decide) rfl ?_
    have L37 : ∀ (N : Nat) (v : Int) (a : Int) (j : Int), 0 ≤ j ∧ j ≤ 6 → a = bitsZ (fun j => wkP x i j (x 4 i 0) r) j → (6 - j).toNat < N → gW Θ l D ad 7 37 [(0, .ref (ad 7 (0))), (2, .int (J (r))), (4, .ref (ad 3 (6))), (5, .int (J (a))), (6, .int (J (j)))] [] (lkM x i 1 v) y := by
      intro N
      induction N with
      | zero => intro v a j hj ha hFu; omega
      | succ N ih37 =>
        intro v a j hj ha hFu
        refine g_iload F dX7_kinds_37 4 rfl ?_
        refine g_bipush F dX7_kinds_39 (6) (by decide) ?_
        refine g_icmp_ge 88 F dX7_kinds_41 (by omega) (by decide) rfl (fun c_2 => ?_) (fun c_2 => ?_)
        · skip
          refine g_iload F dX7_kinds_88 3 rfl ?_
          exact g_ireturn F hR dX7_kinds_90 (pG_z (by unfold sKinds; first | (rw [if_pos (by omega)]; done) | (rw [if_neg (by omega)]; exact ha.trans (by rw [show j = 6 by omega]))) (by unfold sKinds; (repeat' split) <;> first | exact xG_rf _ | exact xG_lk x (by decide) | (exfalso; omega)) rfl)
        · skip
          refine g_aload F dX7_kinds_44 2 rfl ?_
          refine g_iload F dX7_kinds_46 4 rfl ?_
          refine gpN_Man_kind F (by decide) fk_X7_275 dX7_kinds_48 ?_
          refine g_mx (X := lkM x i 1 j) (lkM_u x i 1 v j) ?_
          refine g_iload F dX7_kinds_51 3 rfl ?_
          refine g_aload_n F dX7_kinds_53 rfl 0 rfl ?_
          refine gg_Day_court F fk_X7_28 dX7_kinds_54 ?_
          refine g_aload F dX7_kinds_57 2 rfl ?_
          refine g_aload_n F dX7_kinds_59 rfl 0 rfl ?_
          refine gg_Day_rows F fk_X7_11 dX7_kinds_60 ?_
          refine g_iload_n F dX7_kinds_63 rfl 1 rfl ?_
          refine ga_30 F (by omega) dX7_kinds_64 ?_
          have ra := bitZ_r (P := fun j => wkP x i j (x 4 i 0) r) (n := j) (by omega)
          refine g_callV 2 F (As := [.ref (ad 3 (6)), .ref (ad 6 (r))]) (st := [.int (J (a))]) (c_X0_wouldTell l D ad (lkM x i 1 j) y (6) (r) (by omega) (by omega) (NOK_lk (by decide) hN) (MOK_lk (by omega) hm hMS (by omega)) (by have := hw.1; exact ⟨this.1, this.2, hp0.2.1⟩) (fun q h0 h1 => by have := hp2 q h0 h1; show 0 ≤ x 20 r (2 * q) ∧ x 20 r (2 * q) ≤ 30; omega) (hw.2.1)) (gR_0) rfl mk_X7_271 ki_X0_wouldTell kc_X0_wouldTell (by decide +kernel) rfl (by decide) dX7_kinds_65 rfl (Nat.le_of_ble_eq_true rfl) (pB_k ?_)
          refine g_ifb_eq 78 F dX7_kinds_68 rfl (fun c_3 => ?_) (fun c_3 => ?_)
          · skip
            have hwk : ¬ wkP x i j (x 4 i 0) r := c_3
            refine g_iconst F dX7_kinds_78 (0) (by decide) ?_
            refine g_ior F dX7_kinds_79 (a) (J_or0 _) ?_
            refine g_istore F [(5, .int (J (a))), (0, .ref (ad 7 (0))), (2, .int (J (r))), (4, .ref (ad 3 (6))), (6, .int (J (j)))] dX7_kinds_80 (by decide) rfl ?_
            refine g_iinc F [(6, .int (J (j + 1))), (5, .int (J (a))), (0, .ref (ad 7 (0))), (2, .int (J (r))), (4, .ref (ad 3 (6)))] 4 rfl dX7_kinds_82 (by decide) rfl ?_
            refine g_goto F 37 dX7_kinds_85 rfl ?_
            refine g_sub [2, 3, 4, 1, 0] (lv' := [(0, .ref (ad 7 (0))), (2, .int (J (r))), (4, .ref (ad 3 (6))), (5, .int (J (a))), (6, .int (J (j + 1)))]) rfl ?_
            exact ih37 (j) (a) (j + 1) (by omega) (by rw [ha]; first | exact (bitsZ_y (P := fun j => wkP x i j (x 4 i 0) r) (by omega) hwk).symm | exact (bitsZ_n (P := fun j => wkP x i j (x 4 i 0) r) (by omega) hwk).symm) (by omega)
          · skip
            have hwk : wkP x i j (x 4 i 0) r := c_3
            refine g_iconst F dX7_kinds_71 (1) (by decide) ?_
            refine g_iload F dX7_kinds_72 4 rfl ?_
            refine g_ishl F dX7_kinds_74 (p2 (j)) (J_shl (by omega)) ?_
            refine g_goto F 79 dX7_kinds_75 rfl ?_
            refine g_ior F dX7_kinds_79 (a + p2 j) (J_or (by rw [ha]; exact ra.1) (by rw [ha]; exact ra.2) (by omega)) ?_
            refine g_istore F [(5, .int (J (a + p2 j))), (0, .ref (ad 7 (0))), (2, .int (J (r))), (4, .ref (ad 3 (6))), (6, .int (J (j)))] dX7_kinds_80 (by decide) rfl ?_
            refine g_iinc F [(6, .int (J (j + 1))), (5, .int (J (a + p2 j))), (0, .ref (ad 7 (0))), (2, .int (J (r))), (4, .ref (ad 3 (6)))] 4 rfl dX7_kinds_82 (by decide) rfl ?_
            refine g_goto F 37 dX7_kinds_85 rfl ?_
            refine g_sub [2, 3, 4, 1, 0] (lv' := [(0, .ref (ad 7 (0))), (2, .int (J (r))), (4, .ref (ad 3 (6))), (5, .int (J (a + p2 j))), (6, .int (J (j + 1)))]) rfl ?_
            exact ih37 (j) (a + p2 j) (j + 1) (by omega) (by rw [ha]; first | exact (bitsZ_y (P := fun j => wkP x i j (x 4 i 0) r) (by omega) hwk).symm | exact (bitsZ_n (P := fun j => wkP x i j (x 4 i 0) r) (by omega) hwk).symm) (by omega)
    refine g_sub [4, 6, 2, 1, 0] (lv' := [(0, .ref (ad 7 (0))), (2, .int (J (r))), (4, .ref (ad 3 (6))), (5, .int (J (0))), (6, .int (J (0)))]) rfl ?_
    exact gW_eq (L37 _ (x 1 i 0) (0) (0) (by omega) (rfl) (Nat.lt_succ_self _)) rfl rfl rfl (lkM_0 x i 1 (by decide)) (rfl)
  · skip
    refine g_iload_n F dX7_kinds_11 rfl 0 rfl ?_
    exact g_ireturn F hR dX7_kinds_12 (pG_z (by unfold sKinds; first | (rw [if_pos (by omega)]; done) | (rw [if_neg (by omega)]; exact ha.trans (by rw [show j = 6 by omega]))) (by unfold sKinds; (repeat' split) <;> first | exact xG_rf _ | exact xG_lk x (by decide) | (exfalso; omega)) rfl)

set_option maxRecDepth 20000 in
theorem c_X7_duel (l : Launch) (D : gD) (ad : gA) (x : gX) (y : gY) (n : Int) (hn : i32 n) (hV : INV x) : gC l D ad 6 yX7_duel cX7_duel 2 (some .int) [.ref (ad 7 (0)), .int (J (n))] x y (pG (.int (J ((sDuel x n).1))) (fun u => xG (sDuel x n).2 u) (y)) := by
  refine g_met RX7 rfl (by decide +kernel) [(0, .ref (ad 7 (0))), (1, .int (J (n)))] rfl (Nat.le_of_ble_eq_true rfl) (fun Θ F hR => ?_)
  obtain ⟨hN, hRW, hDD, hCU, hMS⟩ := hV
  refine g_iload_n F dX7_duel_0 rfl 1 rfl ?_
  refine g_if_lt 10 F dX7_duel_1 (by omega) rfl (fun c_1 => ?_) (fun c_1 => ?_)
  · skip
    refine g_iconst F dX7_duel_10 (-1) (by decide) ?_
    exact g_ireturn F hR dX7_duel_11 (pG_z (by unfold sDuel; (repeat' split) <;> first | rfl | (exfalso; omega)) (by unfold sDuel; (repeat' split) <;> first | exact xG_rf _ | exact ⟨fun k i j hk => by rw [hG_34.1 k (by omega) (by omega) (by omega)], fun _ => hG_34.2⟩ | (exfalso; omega)) rfl)
  · skip
    refine g_iload_n F dX7_duel_4 rfl 1 rfl ?_
    refine g_bipush F dX7_duel_5 (6) (by decide) ?_
    refine g_icmp_le 12 F dX7_duel_7 (by omega) (by decide) rfl (fun c_2 => ?_) (fun c_2 => ?_)
    · skip
      refine g_aload_n F dX7_duel_12 rfl 0 rfl ?_
      refine gg_Day_court F fk_X7_28 dX7_duel_13 ?_
      refine ggN_Court_size F fk_X7_121 dX7_duel_16 ?_
      refine g_if_ne 25 F dX7_duel_19 (by omega) rfl (fun c_3 => ?_) (fun c_3 => ?_)
      · skip
        refine g_aload_n F dX7_duel_25 rfl 0 rfl ?_
        refine gg_Day_turns F fk_X7_48 dX7_duel_26 ?_
        refine g_aload_n F dX7_duel_29 rfl 0 rfl ?_
        refine gg_Day_court F fk_X7_28 dX7_duel_30 ?_
        refine g_iload_n F dX7_duel_33 rfl 1 rfl ?_
        refine g_callV 2 F (As := [.ref (ad 0 (0)), .int (J (n))]) (st := []) (c_X2_foulAtLast l D ad x y (n) (by omega) (hMS.1) (by omega)) (gR_2) rfl mk_X7_278 ki_X2_foulAtLast kc_X2_foulAtLast (by decide +kernel) rfl (by decide) dX7_duel_34 rfl (Nat.le_of_ble_eq_true rfl) (pG_k (fun u_34 hG_34 => ?_))
        exact g_ireturn F hR dX7_duel_37 (pG_z (by unfold sDuel; (repeat' split) <;> first | rfl | (exfalso; omega)) (by unfold sDuel; (repeat' split) <;> first | exact xG_rf _ | exact ⟨fun k i j hk => by rw [hG_34.1 k (by omega) (by omega) (by omega)], fun _ => hG_34.2⟩ | (exfalso; omega)) rfl)
      · skip
        refine g_bipush F dX7_duel_22 (-4) (by decide) ?_
        exact g_ireturn F hR dX7_duel_24 (pG_z (by unfold sDuel; (repeat' split) <;> first | rfl | (exfalso; omega)) (by unfold sDuel; (repeat' split) <;> first | exact xG_rf _ | exact ⟨fun k i j hk => by rw [hG_34.1 k (by omega) (by omega) (by omega)], fun _ => hG_34.2⟩ | (exfalso; omega)) rfl)
    · skip
      refine g_iconst F dX7_duel_10 (-1) (by decide) ?_
      exact g_ireturn F hR dX7_duel_11 (pG_z (by unfold sDuel; (repeat' split) <;> first | rfl | (exfalso; omega)) (by unfold sDuel; (repeat' split) <;> first | exact xG_rf _ | exact ⟨fun k i j hk => by rw [hG_34.1 k (by omega) (by omega) (by omega)], fun _ => hG_34.2⟩ | (exfalso; omega)) rfl)
