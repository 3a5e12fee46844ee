/-- those not tried yet, in their order -/
def unN (z : gX) : Nat → List Int
  | 0 => []
  | k + 1 => unN z k ++ (if z 6 (k : Int) 0 = -9 then [(k : Int)] else [])
def unC (z : gX) (i : Int) : Int := ((unN z i.toNat).length : Int)
theorem unN_s (z : gX) {i : Int} (h : 0 ≤ i) : unN z (i + 1).toNat = unN z i.toNat ++ (if z 6 i 0 = -9 then [i] else []) := by
  rw [show (i + 1).toNat = i.toNat + 1 by omega]
  show unN z i.toNat ++ (if z 6 (i.toNat : Int) 0 = -9 then [(i.toNat : Int)] else []) = _
  rw [Int.toNat_of_nonneg h]
theorem unC_s (z : gX) {i : Int} (h : 0 ≤ i) : unC z (i + 1) = unC z i + if z 6 i 0 = -9 then 1 else 0 := by
  unfold unC
  rw [unN_s z h, List.length_append]
  by_cases c : z 6 i 0 = -9
  · rw [if_pos c, if_pos c]; rfl
  · rw [if_neg c, if_neg c]; rfl
theorem unC_r (z : gX) : ∀ n : Nat, 0 ≤ unC z (n : Int) ∧ unC z (n : Int) ≤ n
  | 0 => ⟨Int.le_refl 0, Int.le_refl 0⟩
  | n + 1 => by
    have a := unC_r z n
    have b := unC_s z (i := (n : Int)) (by omega)
    rw [show ((n + 1 : Nat) : Int) = (n : Int) + 1 by omega, b]
    split <;> omega
theorem unC_z (z : gX) {i : Int} (h : 0 ≤ i) : 0 ≤ unC z i ∧ unC z i ≤ i := by
  have a := unC_r z i.toNat
  rw [Int.toNat_of_nonneg h] at a
  exact a
/-- the line, laid so far -/
def LLP (z : gX) (y w : gY) (i : Int) : Prop := (∀ k : Int, k ≠ 14 → k ≠ 52 → w k = y k) ∧ w 14 0 = unC z i ∧ ∀ j : Int, 0 ≤ j → j < unC z i → w 52 j = fnL (unN z i.toNat) j
theorem LLP_0 (z : gX) (y : gY) : LLP z y (yU y 14 0 0) 0 := ⟨fun k h _ => yU_k h, yU_same _ _ _ _, fun j h0 h1 => by
  have e : unC z 0 = 0 := rfl
  omega⟩
theorem LLP_n {z : gX} {y w : gY} {i : Int} (h : LLP z y w i) (hi : 0 ≤ i) (h6 : z 6 i 0 ≠ -9) : LLP z y w (i + 1) := by
  unfold LLP
  rw [unC_s z hi, unN_s z hi, if_neg h6, if_neg h6, Int.add_zero, List.append_nil]
  exact h
theorem LLP_y {z : gX} {y w : gY} {i V : Int} (h : LLP z y w i) (hi : 0 ≤ i) (h6 : z 6 i 0 = -9) (hV : V = unC z i + 1) : LLP z y (yU (yU w 52 (unC z i) i) 14 0 V) (i + 1) := by
  have hr := unC_z z hi
  unfold LLP
  rw [unC_s z hi, unN_s z hi, if_pos h6, if_pos h6, hV]
  refine ⟨fun k a b => by rw [yU_k a, yU_k b]; exact h.1 k a b, yU_same _ _ _ _, fun j j0 j1 => ?_⟩
  rw [yU_k (by decide), yU_at]
  by_cases c : j = unC z i
  · rw [if_pos c, c]
    exact (fnL_at (unN z i.toNat) i).symm
  · rw [if_neg c, h.2.2 j j0 (by omega)]
    exact (fnL_app (unN z i.toNat) [i] j0 (by show j < unC z i; omega)).symm
theorem LLP_ys {z : gX} {y w : gY} {i : Int} (h : LLP z y w i) : ys y w := fun k j c => by rw [h.1 k (by omega) (by omega)]
/-- the next line: from a on, with b put first -/
def nxS (g : Int → Int) (a b q : Int) : Int := if q = a then g b else if q = b then g a else g q
def nxF (g : Int → Int) (n a b q : Int) : Int := if q ≤ a then nxS g a b q else nxS g a b (n + a - q)
def SWP (y w : gY) (g : Int → Int) (n a b i : Int) : Prop := (∀ k : Int, k ≠ 52 → w k = y k) ∧ ∀ q : Int, 0 ≤ q → q < n → w 52 q = if a < q ∧ (q < i ∨ n + a - i < q) then nxS g a b (n + a - q) else nxS g a b q
theorem SWP_0 {y : gY} {g : Int → Int} {n a b : Int} (hl : ∀ q : Int, 0 ≤ q → q < n → y 52 q = g q) (ha : 0 ≤ a) (hb : a < b ∧ b < n) : SWP y (yU (yU y 52 a (y 52 b)) 52 b (y 52 a)) g n a b (a + 1) := by
  refine ⟨fun k hk => by rw [yU_k hk, yU_k hk], fun q q0 q1 => ?_⟩
  rw [if_neg (by omega), yU_at, yU_at, hl a ha (by omega), hl b (by omega) hb.2, hl q q0 q1]
  unfold nxS
  by_cases c : q = b
  · rw [if_pos c, if_neg (by omega), if_pos c]
  · rw [if_neg c]
    by_cases d : q = a
    · rw [if_pos d, if_pos d]
    · rw [if_neg d, if_neg d, if_neg c]
theorem SWP_s {y w : gY} {g : Int → Int} {n a b i j : Int} (h : SWP y w g n a b i) (h0 : 0 ≤ a) (hi : a < i ∧ i < j) (hj : i + j = n + a) : SWP y (yU (yU w 52 i (w 52 j)) 52 j (w 52 i)) g n a b (i + 1) := by
  refine ⟨fun k hk => by rw [yU_k hk, yU_k hk]; exact h.1 k hk, fun q q0 q1 => ?_⟩
  rw [yU_at, yU_at, h.2 i (by omega) (by omega), h.2 j (by omega) (by omega), h.2 q q0 q1]
  rw [if_neg (show ¬ (a < i ∧ (i < i ∨ n + a - i < i)) by omega), if_neg (show ¬ (a < j ∧ (j < i ∨ n + a - i < j)) by omega)]
  by_cases c : q = j
  · rw [if_pos c, if_pos (show a < q ∧ (q < i + 1 ∨ n + a - (i + 1) < q) by omega), show n + a - q = i by omega]
  · rw [if_neg c]
    by_cases d : q = i
    · rw [if_pos d, if_pos (show a < q ∧ (q < i + 1 ∨ n + a - (i + 1) < q) by omega), show n + a - q = j by omega]
    · rw [if_neg d]
      by_cases e : a < q ∧ (q < i ∨ n + a - i < q)
      · rw [if_pos e, if_pos (show a < q ∧ (q < i + 1 ∨ n + a - (i + 1) < q) by omega)]
      · rw [if_neg e, if_neg (show ¬ (a < q ∧ (q < i + 1 ∨ n + a - (i + 1) < q)) by omega)]
def NXP (y w : gY) (g : Int → Int) (n a b : Int) : Prop := (∀ k : Int, k ≠ 52 → w k = y k) ∧ (0 ≤ a → ∀ q : Int, 0 ≤ q → q < n → w 52 q = nxF g n a b q)
theorem NXP_n {y : gY} {g : Int → Int} {n a b : Int} (h : a < 0) : NXP y y g n a b := ⟨fun _ _ => rfl, fun c => absurd c (by omega)⟩
theorem NXP_y {y w : gY} {g : Int → Int} {n a b i j : Int} (h : SWP y w g n a b i) (hi : a < i) (hij : j ≤ i) (hj : i + j = n + a) : NXP y w g n a b := ⟨h.1, fun _ q q0 q1 => by
  rw [h.2 q q0 q1]
  unfold nxF
  by_cases c : q ≤ a
  · rw [if_neg (show ¬ (a < q ∧ (q < i ∨ n + a - i < q)) by omega), if_pos c]
  · rw [if_neg c]
    by_cases e : a < q ∧ (q < i ∨ n + a - i < q)
    · rw [if_pos e]
    · rw [if_neg e]; congr 1; omega⟩
set_option maxRecDepth 20000 in
theorem c_X8_layLine (l : Launch) (D : gD) (ad : gA) (x : gX) (y : gY) (z : gX) (hRel : Rel z y) : gC l D ad 2 yX8_layLine cX8_layLine 2 none [.ref (ad 8 (0))] x y (pNH (x) (fun w9 => LLP z y w9 (z 10 0 0))) := by
  refine g_met RX8 rfl (by decide +kernel) [(0, .ref (ad 8 (0)))] rfl (Nat.le_of_ble_eq_true rfl) (fun Θ F hR => ?_)
  have hN := hRel.1.1
  have hRW := hRel.1.2.1
  have hDD := hRel.1.2.2.1
  have hST := hRel.2.1
  have hB := Rel_SB hRel
  have h10 := hN.2.1
  have h15 := hN.2.2.1
  refine g_aload_n F dX8_layLine_0 rfl 0 rfl ?_
  refine g_iconst F dX8_layLine_1 (0) (by decide) ?_
  refine gp_Model_lineSize F fk_X8_250 dX8_layLine_2 ?_
  refine g_iconst F dX8_layLine_5 (0) (by decide) ?_
  refine g_istore_n F [(1, .int (J (0))), (0, .ref (ad 8 (0)))] dX8_layLine_6 rfl (by decide) rfl ?_
  have L7 : ∀ (N : Nat) (w : gY) (i : Int), 0 ≤ i ∧ i ≤ z 10 0 0 → LLP z y w i → (z 10 0 0 - i).toNat < N → gW Θ l D ad 2 7 [(0, .ref (ad 8 (0))), (1, .int (J (i)))] [] x w := by
    intro N
    induction N with
    | zero => intro w i hi hw hFu; omega
    | succ N ih7 =>
      intro w i hi hw hFu
      have hRw : Rel z w := Rel_ys hRel (LLP_ys hw)
      have hur := unC_z z hi.1
      refine g_iload_n F dX8_layLine_7 rfl 1 rfl ?_
      refine g_aload_n F dX8_layLine_8 rfl 0 rfl ?_
      refine gg_Model_men F fk_X8_157 dX8_layLine_9 ?_
      refine g_topi (b := z 10 0 0) (hRw.2.1.2.2.2.2.1) ?_
      refine g_icmp_ge 49 F dX8_layLine_12 (by omega) (by omega) rfl (fun c_1 => ?_) (fun c_1 => ?_)
      · skip
        exact g_vreturn F hR dX8_layLine_49 (pNH_i (by rw [show z 10 0 0 = i by omega]; exact hw) rfl)
      · skip
        refine g_aload_n F dX8_layLine_15 rfl 0 rfl ?_
        refine g_iload_n F dX8_layLine_16 rfl 1 rfl ?_
        refine g_callV 1 F (As := [.int (J (i))]) (st := []) (c_X8_isDone l D ad x w z (i) (hRw.2.1) (hN) (Rel_SB hRw) (by omega)) (gR_8) rfl mk_X8_219 ki_X8_isDone kc_X8_isDone (by decide +kernel) rfl (by decide) dX8_layLine_17 rfl (Nat.le_of_ble_eq_true rfl) (pB_k ?_)
        refine g_ifb_ne 43 F dX8_layLine_20 rfl (fun c_2 => ?_) (fun c_2 => ?_)
        · skip
          have h6d : z 6 i 0 ≠ -9 := c_2
          refine g_iinc F [(1, .int (J (i + 1))), (0, .ref (ad 8 (0)))] 1 rfl dX8_layLine_43 (by decide) rfl ?_
          refine g_goto F 7 dX8_layLine_46 rfl ?_
          refine g_sub [1, 0] (lv' := [(0, .ref (ad 8 (0))), (1, .int (J (i + 1)))]) rfl ?_
          exact ih7 (w) (i + 1) (by omega) (by first | exact LLP_n hw hi.1 h6d | exact LLP_y hw hi.1 h6n rfl) (by omega)
        · skip
          have h6n : z 6 i 0 = -9 := by omega
          refine g_aload_n F dX8_layLine_23 rfl 0 rfl ?_
          refine gg_Model_line F fk_X8_50 dX8_layLine_24 ?_
          refine g_aload_n F dX8_layLine_27 rfl 0 rfl ?_
          refine gg_Model_lineSize F fk_X8_250 dX8_layLine_28 ?_
          refine g_topi (b := unC z i) (hw.2.1) ?_
          refine g_iload_n F dX8_layLine_31 rfl 1 rfl ?_
          refine gs_52 F (by omega) dX8_layLine_32 ?_
          refine g_aload_n F dX8_layLine_33 rfl 0 rfl ?_
          refine g_dup F dX8_layLine_34 rfl ?_
          refine gg_Model_lineSize F fk_X8_250 dX8_layLine_35 ?_
          refine g_topi (b := w 14 (0)) (by simp [yU]) ?_
          refine g_topi (b := unC z i) (hw.2.1) ?_
          refine g_iconst F dX8_layLine_38 (1) (by decide) ?_
          refine g_iadd F dX8_layLine_39 ?_
          refine gp_Model_lineSize F fk_X8_250 dX8_layLine_40 ?_
          refine g_iinc F [(1, .int (J (i + 1))), (0, .ref (ad 8 (0)))] 1 rfl dX8_layLine_43 (by decide) rfl ?_
          refine g_goto F 7 dX8_layLine_46 rfl ?_
          refine g_sub [1, 0] (lv' := [(0, .ref (ad 8 (0))), (1, .int (J (i + 1)))]) rfl ?_
          exact ih7 ((yU (yU w 52 (unC z i) (i)) 14 (0) ((unC z i) + (1)))) (i + 1) (by omega) (by first | exact LLP_n hw hi.1 h6d | exact LLP_y hw hi.1 h6n rfl) (by omega)
  refine g_sub [1, 0] (lv' := [(0, .ref (ad 8 (0))), (1, .int (J (0)))]) rfl ?_
  exact L7 _ ((yU y 14 (0) (0))) (0) (by omega) (LLP_0 z y) (Nat.lt_succ_self _)

set_option maxHeartbeats 2000000 in
set_option maxRecDepth 20000 in
theorem c_X8_nextLine (l : Launch) (D : gD) (ad : gA) (x : gX) (y : gY) (g : Int → Int) (n a b : Int) (hn : 0 ≤ n ∧ n ≤ 6) (h14 : y 14 0 = n) (hl : ∀ q : Int, 0 ≤ q → q < n → y 52 q = g q) (hg : ∀ q : Int, 0 ≤ q → q < n → 0 ≤ g q ∧ g q < 6) (ha : (a = -2 ∧ n = 0) ∨ (a = -1 ∧ 1 ≤ n) ∨ (0 ≤ a ∧ a + 1 < n)) (hA1 : 0 ≤ a → g a ≤ g (a + 1)) (hA2 : ∀ q : Int, a < q → 0 ≤ q → q + 1 < n → g (q + 1) < g q) (hb : 0 ≤ a → a < b ∧ b < n ∧ g a ≤ g b) (hB2 : ∀ q : Int, 0 ≤ a → b < q → q < n → g q < g a) : gC l D ad 1 yX8_nextLine cX8_nextLine 5 (some .boolean) [.ref (ad 8 (0))] x y (pH (.int (J (if 0 ≤ a then 1 else 0))) (x) (fun w9 => NXP y w9 g n a b)) := by
  refine g_met RX8 rfl (by decide +kernel) [(0, .ref (ad 8 (0)))] rfl (Nat.le_of_ble_eq_true rfl) (fun Θ F hR => ?_)
  refine g_aload_n F dX8_nextLine_0 rfl 0 rfl ?_
  refine gg_Model_lineSize F fk_X8_250 dX8_nextLine_1 ?_
  refine g_topi (b := n) (h14) ?_
  refine g_iconst F dX8_nextLine_4 (2) (by decide) ?_
  refine g_isub F dX8_nextLine_5 ?_
  refine g_istore_n F [(1, .int (J ((n) - (2)))), (0, .ref (ad 8 (0)))] dX8_nextLine_6 rfl (by decide) rfl ?_
  have L7 : ∀ (N : Nat) (q : Int), a ≤ q ∧ q + 2 ≤ n → (q + 3).toNat < N → gW Θ l D ad 5 7 [(0, .ref (ad 8 (0))), (1, .int (J (q)))] [] x y := by
    intro N
    induction N with
    | zero => intro q hq hFu; omega
    | succ N ih7 =>
      intro q hq hFu
      refine g_iload_n F dX8_nextLine_7 rfl 1 rfl ?_
      refine g_if_lt 34 F dX8_nextLine_8 (by omega) rfl (fun c_1 => ?_) (fun c_1 => ?_)
      · skip
        refine g_iload_n F dX8_nextLine_34 rfl 1 rfl ?_
        refine g_if_ge 40 F dX8_nextLine_35 (by omega) rfl (fun c_2 => ?_) (fun c_2 => ?_)
        · skip
          have haq : 0 ≤ a := by omega
          have hb3 := hb haq
          refine g_aload_n F dX8_nextLine_40 rfl 0 rfl ?_
          refine gg_Model_lineSize F fk_X8_250 dX8_nextLine_41 ?_
          refine g_topi (b := n) (h14) ?_
          refine g_iconst F dX8_nextLine_44 (1) (by decide) ?_
          refine g_isub F dX8_nextLine_45 ?_
          refine g_istore_n F [(2, .int (J ((n) - (1)))), (0, .ref (ad 8 (0))), (1, .int (J (q)))] dX8_nextLine_46 rfl (by decide) rfl ?_
          have L47 : ∀ (N : Nat) (c : Int) (p : Int), c = a → b ≤ p ∧ p + 1 ≤ n → 0 ≤ a → (p).toNat < N → gW Θ l D ad 5 47 [(0, .ref (ad 8 (0))), (1, .int (J (c))), (2, .int (J (p)))] [] x y := by
            intro N
            induction N with
            | zero => intro c p hca hp haq hFu; omega
            | succ N ih47 =>
              intro c p hca hp haq hFu
              have hb3 := hb haq
              have hg0 := hg p (by omega) (by omega)
              have hg1 := hg c (by omega) (by omega)
              refine g_aload_n F dX8_nextLine_47 rfl 0 rfl ?_
              refine gg_Model_line F fk_X8_50 dX8_nextLine_48 ?_
              refine g_iload_n F dX8_nextLine_51 rfl 2 rfl ?_
              refine ga_52 F (by omega) dX8_nextLine_52 ?_
              refine g_topi (b := g (p)) (hl _ (by omega) (by omega)) ?_
              refine g_aload_n F dX8_nextLine_53 rfl 0 rfl ?_
              refine gg_Model_line F fk_X8_50 dX8_nextLine_54 ?_
              refine g_iload_n F dX8_nextLine_57 rfl 1 rfl ?_
              refine ga_52 F (by omega) dX8_nextLine_58 ?_
              refine g_topi (b := g (c)) (hl _ (by omega) (by omega)) ?_
              refine g_icmp_ge 68 F dX8_nextLine_59 (by omega) (by omega) rfl (fun c_3 => ?_) (fun c_3 => ?_)
              · skip
                have hpb : p = b := by
                  by_cases e : p = b
                  · exact e
                  · have q1 := hB2 p haq (by omega) (by omega)
                    rw [← hca] at q1
                    exact absurd q1 (by omega)
                refine g_aload_n F dX8_nextLine_68 rfl 0 rfl ?_
                refine g_iload_n F dX8_nextLine_69 rfl 1 rfl ?_
                refine g_iload_n F dX8_nextLine_70 rfl 2 rfl ?_
                refine g_callV 2 F (As := [.int (J (c)), .int (J (p))]) (st := []) (c_X8_swapLine l D ad x y (c) (p) (by omega) (by omega)) (gR_8) rfl mk_X8_253 ki_X8_swapLine kc_X8_swapLine (by decide +kernel) rfl (by decide) dX8_nextLine_71 rfl (Nat.le_of_ble_eq_true rfl) (pV_k ?_)
                refine g_iload_n F dX8_nextLine_74 rfl 1 rfl ?_
                refine g_iconst F dX8_nextLine_75 (1) (by decide) ?_
                refine g_iadd F dX8_nextLine_76 ?_
                refine g_istore_n F [(3, .int (J ((c) + (1)))), (0, .ref (ad 8 (0))), (1, .int (J (c))), (2, .int (J (p)))] dX8_nextLine_77 rfl (by decide) rfl ?_
                refine g_aload_n F dX8_nextLine_78 rfl 1 rfl ?_
                refine gg_Model_lineSize F fk_X8_250 dX8_nextLine_79 ?_
                refine g_topi (b := n) (by rw [yU_k (by decide), yU_k (by decide)]; exact h14) ?_
                refine g_iconst F dX8_nextLine_82 (1) (by decide) ?_
                refine g_isub F dX8_nextLine_83 ?_
                refine g_istore F [(4, .int (J ((n) - (1)))), (3, .int (J ((c) + (1)))), (0, .ref (ad 8 (0))), (1, .int (J (c))), (2, .int (J (p)))] dX8_nextLine_84 (by decide) rfl ?_
                have L86 : ∀ (N : Nat) (w : gY) (i : Int) (j : Int), a < i ∧ i ≤ n ∧ a ≤ j ∧ j < n → i + j = n + a → SWP y w g n a b i → (j - i + 6).toNat < N → gW Θ l D ad 5 86 [(0, .ref (ad 8 (0))), (3, .int (J (i))), (4, .int (J (j)))] [] x w := by
                  intro N
                  induction N with
                  | zero => intro w i j hi hij hw hFu; omega
                  | succ N ih86 =>
                    intro w i j hi hij hw hFu
                    refine g_iload_n F dX8_nextLine_86 rfl 1 rfl ?_
                    refine g_iload F dX8_nextLine_87 2 rfl ?_
                    refine g_icmp_ge 108 F dX8_nextLine_89 (by omega) (by omega) rfl (fun c_4 => ?_) (fun c_4 => ?_)
                    · skip
                      refine g_iconst F dX8_nextLine_108 (1) (by decide) ?_
                      exact g_zreturn F hR dX8_nextLine_109 (by omega) (pH_z (by first | (rw [if_pos (by omega)]; done) | (rw [if_neg (by omega)]; done)) (by first | exact NXP_n (by omega) | exact NXP_y hw hi.1 (by omega) hij) rfl)
                    · skip
                      refine g_aload_n F dX8_nextLine_92 rfl 0 rfl ?_
                      refine g_iload_n F dX8_nextLine_93 rfl 1 rfl ?_
                      refine g_iload F dX8_nextLine_94 2 rfl ?_
                      refine g_callV 2 F (As := [.int (J (i)), .int (J (j))]) (st := []) (c_X8_swapLine l D ad x w (i) (j) (by omega) (by omega)) (gR_8) rfl mk_X8_253 ki_X8_swapLine kc_X8_swapLine (by decide +kernel) rfl (by decide) dX8_nextLine_96 rfl (Nat.le_of_ble_eq_true rfl) (pV_k ?_)
                      refine g_iinc F [(3, .int (J (i + 1))), (0, .ref (ad 8 (0))), (4, .int (J (j)))] 1 rfl dX8_nextLine_99 (by decide) rfl ?_
                      refine g_iinc F [(4, .int (J (j + (-1)))), (3, .int (J (i + 1))), (0, .ref (ad 8 (0)))] 2 rfl dX8_nextLine_102 (by decide) rfl ?_
                      refine g_goto F 86 dX8_nextLine_105 rfl ?_
                      refine g_sub [2, 1, 0] (lv' := [(0, .ref (ad 8 (0))), (3, .int (J (i + 1))), (4, .int (J (j + (-1))))]) rfl ?_
                      exact ih86 ((yU (yU w 52 (i) (w 52 (j))) 52 (j) (w 52 (i)))) (i + 1) (j + (-1)) (by omega) (by omega) (SWP_s hw haq ⟨hi.1, by omega⟩ hij) (by omega)
                refine g_sub [2, 1, 0] (lv' := [(0, .ref (ad 8 (0))), (3, .int (J ((c) + (1)))), (4, .int (J ((n) - (1))))]) rfl ?_
                exact L86 _ ((yU (yU y 52 (c) (y 52 (p))) 52 (p) (y 52 (c)))) ((c) + (1)) ((n) - (1)) (by omega) (by omega) (by rw [hca, hpb]; exact SWP_0 hl haq ⟨hb3.1, hb3.2.1⟩) (Nat.lt_succ_self _)
              · skip
                have hpb : p ≠ b := fun e => by have q1 := hb3.2.2; rw [← e, ← hca] at q1; omega
                refine g_iinc F [(2, .int (J (p + (-1)))), (0, .ref (ad 8 (0))), (1, .int (J (c)))] 2 rfl dX8_nextLine_62 (by decide) rfl ?_
                refine g_goto F 47 dX8_nextLine_65 rfl ?_
                refine g_sub [1, 2, 0] (lv' := [(0, .ref (ad 8 (0))), (1, .int (J (c))), (2, .int (J (p + (-1))))]) rfl ?_
                exact ih47 (c) (p + (-1)) (by omega) (by omega) (by omega) (by omega)
          refine g_sub [1, 2, 0] (lv' := [(0, .ref (ad 8 (0))), (1, .int (J (q))), (2, .int (J ((n) - (1))))]) rfl ?_
          exact L47 _ (q) ((n) - (1)) (by omega) (by omega) (by omega) (Nat.lt_succ_self _)
        · skip
          refine g_iconst F dX8_nextLine_38 (0) (by decide) ?_
          exact g_zreturn F hR dX8_nextLine_39 (by omega) (pH_z (by first | (rw [if_pos (by omega)]; done) | (rw [if_neg (by omega)]; done)) (by first | exact NXP_n (by omega) | exact NXP_y hw hi.1 (by omega) hij) rfl)
      · skip
        have hg0 := hg q (by omega) (by omega)
        have hg1 := hg (q + 1) (by omega) (by omega)
        refine g_aload_n F dX8_nextLine_11 rfl 0 rfl ?_
        refine gg_Model_line F fk_X8_50 dX8_nextLine_12 ?_
        refine g_iload_n F dX8_nextLine_15 rfl 1 rfl ?_
        refine ga_52 F (by omega) dX8_nextLine_16 ?_
        refine g_topi (b := g (q)) (hl _ (by omega) (by omega)) ?_
        refine g_aload_n F dX8_nextLine_17 rfl 0 rfl ?_
        refine gg_Model_line F fk_X8_50 dX8_nextLine_18 ?_
        refine g_iload_n F dX8_nextLine_21 rfl 1 rfl ?_
        refine g_iconst F dX8_nextLine_22 (1) (by decide) ?_
        refine g_iadd F dX8_nextLine_23 ?_
        refine ga_52 F (by omega) dX8_nextLine_24 ?_
        refine g_topi (b := g ((q) + (1))) (hl _ (by omega) (by omega)) ?_
        refine g_icmp_le 34 F dX8_nextLine_25 (by omega) (by omega) rfl (fun c_5 => ?_) (fun c_5 => ?_)
        · skip
          have hqa : q = a := by
            by_cases c : q = a
            · exact c
            · exact absurd (hA2 q (by omega) (by omega) (by omega)) (by omega)
          refine g_iload_n F dX8_nextLine_34 rfl 1 rfl ?_
          refine g_if_ge 40 F dX8_nextLine_35 (by omega) rfl (fun c_6 => ?_) (fun c_6 => ?_)
          · skip
            have haq : 0 ≤ a := by omega
            have hb3 := hb haq
            refine g_aload_n F dX8_nextLine_40 rfl 0 rfl ?_
            refine gg_Model_lineSize F fk_X8_250 dX8_nextLine_41 ?_
            refine g_topi (b := n) (h14) ?_
            refine g_iconst F dX8_nextLine_44 (1) (by decide) ?_
            refine g_isub F dX8_nextLine_45 ?_
            refine g_istore_n F [(2, .int (J ((n) - (1)))), (0, .ref (ad 8 (0))), (1, .int (J (q)))] dX8_nextLine_46 rfl (by decide) rfl ?_
            have L47 : ∀ (N : Nat) (c : Int) (p : Int), c = a → b ≤ p ∧ p + 1 ≤ n → 0 ≤ a → (p).toNat < N → gW Θ l D ad 5 47 [(0, .ref (ad 8 (0))), (1, .int (J (c))), (2, .int (J (p)))] [] x y := by
              intro N
              induction N with
              | zero => intro c p hca hp haq hFu; omega
              | succ N ih47 =>
                intro c p hca hp haq hFu
                have hb3 := hb haq
                have hg0 := hg p (by omega) (by omega)
                have hg1 := hg c (by omega) (by omega)
                refine g_aload_n F dX8_nextLine_47 rfl 0 rfl ?_
                refine gg_Model_line F fk_X8_50 dX8_nextLine_48 ?_
                refine g_iload_n F dX8_nextLine_51 rfl 2 rfl ?_
                refine ga_52 F (by omega) dX8_nextLine_52 ?_
                refine g_topi (b := g (p)) (hl _ (by omega) (by omega)) ?_
                refine g_aload_n F dX8_nextLine_53 rfl 0 rfl ?_
                refine gg_Model_line F fk_X8_50 dX8_nextLine_54 ?_
                refine g_iload_n F dX8_nextLine_57 rfl 1 rfl ?_
                refine ga_52 F (by omega) dX8_nextLine_58 ?_
                refine g_topi (b := g (c)) (hl _ (by omega) (by omega)) ?_
                refine g_icmp_ge 68 F dX8_nextLine_59 (by omega) (by omega) rfl (fun c_7 => ?_) (fun c_7 => ?_)
                · skip
                  have hpb : p = b := by
                    by_cases e : p = b
                    · exact e
                    · have q1 := hB2 p haq (by omega) (by omega)
                      rw [← hca] at q1
                      exact absurd q1 (by omega)
                  refine g_aload_n F dX8_nextLine_68 rfl 0 rfl ?_
                  refine g_iload_n F dX8_nextLine_69 rfl 1 rfl ?_
                  refine g_iload_n F dX8_nextLine_70 rfl 2 rfl ?_
                  refine g_callV 2 F (As := [.int (J (c)), .int (J (p))]) (st := []) (c_X8_swapLine l D ad x y (c) (p) (by omega) (by omega)) (gR_8) rfl mk_X8_253 ki_X8_swapLine kc_X8_swapLine (by decide +kernel) rfl (by decide) dX8_nextLine_71 rfl (Nat.le_of_ble_eq_true rfl) (pV_k ?_)
                  refine g_iload_n F dX8_nextLine_74 rfl 1 rfl ?_
                  refine g_iconst F dX8_nextLine_75 (1) (by decide) ?_
                  refine g_iadd F dX8_nextLine_76 ?_
                  refine g_istore_n F [(3, .int (J ((c) + (1)))), (0, .ref (ad 8 (0))), (1, .int (J (c))), (2, .int (J (p)))] dX8_nextLine_77 rfl (by decide) rfl ?_
                  refine g_aload_n F dX8_nextLine_78 rfl 1 rfl ?_
                  refine gg_Model_lineSize F fk_X8_250 dX8_nextLine_79 ?_
                  refine g_topi (b := n) (by rw [yU_k (by decide), yU_k (by decide)]; exact h14) ?_
                  refine g_iconst F dX8_nextLine_82 (1) (by decide) ?_
                  refine g_isub F dX8_nextLine_83 ?_
                  refine g_istore F [(4, .int (J ((n) - (1)))), (3, .int (J ((c) + (1)))), (0, .ref (ad 8 (0))), (1, .int (J (c))), (2, .int (J (p)))] dX8_nextLine_84 (by decide) rfl ?_
                  have L86 : ∀ (N : Nat) (w : gY) (i : Int) (j : Int), a < i ∧ i ≤ n ∧ a ≤ j ∧ j < n → i + j = n + a → SWP y w g n a b i → (j - i + 6).toNat < N → gW Θ l D ad 5 86 [(0, .ref (ad 8 (0))), (3, .int (J (i))), (4, .int (J (j)))] [] x w := by
                    intro N
                    induction N with
                    | zero => intro w i j hi hij hw hFu; omega
                    | succ N ih86 =>
                      intro w i j hi hij hw hFu
                      refine g_iload_n F dX8_nextLine_86 rfl 1 rfl ?_
                      refine g_iload F dX8_nextLine_87 2 rfl ?_
                      refine g_icmp_ge 108 F dX8_nextLine_89 (by omega) (by omega) rfl (fun c_8 => ?_) (fun c_8 => ?_)
                      · skip
                        refine g_iconst F dX8_nextLine_108 (1) (by decide) ?_
                        exact g_zreturn F hR dX8_nextLine_109 (by omega) (pH_z (by first | (rw [if_pos (by omega)]; done) | (rw [if_neg (by omega)]; done)) (by first | exact NXP_n (by omega) | exact NXP_y hw hi.1 (by omega) hij) rfl)
                      · skip
                        refine g_aload_n F dX8_nextLine_92 rfl 0 rfl ?_
                        refine g_iload_n F dX8_nextLine_93 rfl 1 rfl ?_
                        refine g_iload F dX8_nextLine_94 2 rfl ?_
                        refine g_callV 2 F (As := [.int (J (i)), .int (J (j))]) (st := []) (c_X8_swapLine l D ad x w (i) (j) (by omega) (by omega)) (gR_8) rfl mk_X8_253 ki_X8_swapLine kc_X8_swapLine (by decide +kernel) rfl (by decide) dX8_nextLine_96 rfl (Nat.le_of_ble_eq_true rfl) (pV_k ?_)
                        refine g_iinc F [(3, .int (J (i + 1))), (0, .ref (ad 8 (0))), (4, .int (J (j)))] 1 rfl dX8_nextLine_99 (by decide) rfl ?_
                        refine g_iinc F [(4, .int (J (j + (-1)))), (3, .int (J (i + 1))), (0, .ref (ad 8 (0)))] 2 rfl dX8_nextLine_102 (by decide) rfl ?_
                        refine g_goto F 86 dX8_nextLine_105 rfl ?_
                        refine g_sub [2, 1, 0] (lv' := [(0, .ref (ad 8 (0))), (3, .int (J (i + 1))), (4, .int (J (j + (-1))))]) rfl ?_
                        exact ih86 ((yU (yU w 52 (i) (w 52 (j))) 52 (j) (w 52 (i)))) (i + 1) (j + (-1)) (by omega) (by omega) (SWP_s hw haq ⟨hi.1, by omega⟩ hij) (by omega)
                  refine g_sub [2, 1, 0] (lv' := [(0, .ref (ad 8 (0))), (3, .int (J ((c) + (1)))), (4, .int (J ((n) - (1))))]) rfl ?_
                  exact L86 _ ((yU (yU y 52 (c) (y 52 (p))) 52 (p) (y 52 (c)))) ((c) + (1)) ((n) - (1)) (by omega) (by omega) (by rw [hca, hpb]; exact SWP_0 hl haq ⟨hb3.1, hb3.2.1⟩) (Nat.lt_succ_self _)
                · skip
                  have hpb : p ≠ b := fun e => by have q1 := hb3.2.2; rw [← e, ← hca] at q1; omega
                  refine g_iinc F [(2, .int (J (p + (-1)))), (0, .ref (ad 8 (0))), (1, .int (J (c)))] 2 rfl dX8_nextLine_62 (by decide) rfl ?_
                  refine g_goto F 47 dX8_nextLine_65 rfl ?_
                  refine g_sub [1, 2, 0] (lv' := [(0, .ref (ad 8 (0))), (1, .int (J (c))), (2, .int (J (p + (-1))))]) rfl ?_
                  exact ih47 (c) (p + (-1)) (by omega) (by omega) (by omega) (by omega)
            refine g_sub [1, 2, 0] (lv' := [(0, .ref (ad 8 (0))), (1, .int (J (q))), (2, .int (J ((n) - (1))))]) rfl ?_
            exact L47 _ (q) ((n) - (1)) (by omega) (by omega) (by omega) (Nat.lt_succ_self _)
          · skip
            refine g_iconst F dX8_nextLine_38 (0) (by decide) ?_
            exact g_zreturn F hR dX8_nextLine_39 (by omega) (pH_z (by first | (rw [if_pos (by omega)]; done) | (rw [if_neg (by omega)]; done)) (by first | exact NXP_n (by omega) | exact NXP_y hw hi.1 (by omega) hij) rfl)
        · skip
          have hqa : q ≠ a := fun c => by have q1 := hA1 (by omega); rw [← c] at q1; omega
          refine g_iinc F [(1, .int (J (q + (-1)))), (0, .ref (ad 8 (0)))] 1 rfl dX8_nextLine_28 (by decide) rfl ?_
          refine g_goto F 7 dX8_nextLine_31 rfl ?_
          refine g_sub [1, 0] (lv' := [(0, .ref (ad 8 (0))), (1, .int (J (q + (-1))))]) rfl ?_
          exact ih7 (q + (-1)) (by omega) (by omega)
  refine g_sub [1, 0] (lv' := [(0, .ref (ad 8 (0))), (1, .int (J ((n) - (2))))]) rfl ?_
  exact L7 _ ((n) - (2)) (by omega) (Nat.lt_succ_self _)
