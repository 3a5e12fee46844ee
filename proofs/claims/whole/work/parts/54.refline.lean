def ltY (y : gY) (q : Int) : gY := fun k j => if k = 40 ∧ 2628 ≤ j ∧ j < 2628 + q then y 40 (j - 2628) else y k j
theorem ltY_0 (y : gY) : ltY y 0 = y := by funext k j; unfold ltY; rw [if_neg (by omega)]
theorem ltY_s (y : gY) {q : Int} (hq : 0 ≤ q) : yU (ltY y q) 40 (2628 + q) (y 40 q) = ltY y (q + 1) := by
  funext k j
  unfold yU ltY
  by_cases h1 : k = 40 ∧ j = 2628 + q
  · rw [if_pos h1, if_pos ⟨h1.1, by omega, by omega⟩, h1.2]; congr 1; omega
  · rw [if_neg h1]
    by_cases h2 : k = 40 ∧ 2628 ≤ j ∧ j < 2628 + q
    · rw [if_pos h2, if_pos ⟨h2.1, h2.2.1, by omega⟩]
    · rw [if_neg h2, if_neg (by omega)]
theorem ltY_o (y : gY) (q : Int) {j : Int} (h : j < 2628) : ltY y q 40 j = y 40 j := by unfold ltY; rw [if_neg (by omega)]
theorem ltY_k (y : gY) (q : Int) {k : Int} (h : k ≠ 40) : ltY y q k = y k := by funext j; unfold ltY; rw [if_neg (fun w => h w.1)]
theorem ltY_SB {z : gX} {y : gY} (h : SB z y 0) : SB z (ltY y 17) 2628 := fun k k0 k1 => by
  unfold ltY
  rw [if_pos ⟨rfl, by omega, by omega⟩, show 2628 + 1 + k - 2628 = 0 + 1 + k by omega]
  exact h k k0 k1
/-- the men of a line tried, one after another -/
def acN (z : gX) (f : Int → Int) : Nat → gX
  | 0 => z
  | k + 1 => actM (acN z f k) 2 (f (k : Int))
def acZ (z : gX) (f : Int → Int) (k : Int) : gX := acN z f k.toNat
theorem acZ_s (z : gX) (f : Int → Int) {k : Int} (h : 0 ≤ k) : acZ z f (k + 1) = actM (acZ z f k) 2 (f k) := by
  unfold acZ
  rw [show (k + 1).toNat = k.toNat + 1 by omega]
  show actM (acN z f k.toNat) 2 (f (k.toNat : Int)) = _
  rw [Int.toNat_of_nonneg h]
/-- a line: men not tried yet, each once -/
def LN (z : gX) (f : Int → Int) (n : Int) : Prop := (∀ j : Int, 0 ≤ j → j < n → (0 ≤ f j ∧ f j < z 10 0 0) ∧ z 6 (f j) 0 = -9) ∧ ∀ j k : Int, 0 ≤ j → j < k → k < n → f j ≠ f k
theorem acN_k (z : gX) (f : Int → Int) {k : Int} (h6 : k ≠ 6) (h7 : k ≠ 7) (h15 : k ≠ 15) : ∀ n : Nat, acN z f n k = z k
  | 0 => rfl
  | n + 1 => by
    show actM (acN z f n) 2 (f (n : Int)) k = z k
    rw [actM_w2 rfl, xU_k h15, xU_k h7, xU_k h6]
    exact acN_k z f h6 h7 h15 n
theorem acN_i (z : gX) (f : Int → Int) {i : Int} : ∀ n : Nat, (∀ j : Int, 0 ≤ j → j < n → f j ≠ i) → acN z f n 6 i 0 = z 6 i 0 ∧ acN z f n 7 i 0 = z 7 i 0
  | 0, _ => ⟨rfl, rfl⟩
  | n + 1, h => by
    have ih := acN_i z f n (fun j a b => h j a (by omega))
    have hn := h (n : Int) (by omega) (by omega)
    show actM (acN z f n) 2 (f (n : Int)) 6 i 0 = _ ∧ actM (acN z f n) 2 (f (n : Int)) 7 i 0 = _
    rw [actM_w2 rfl]
    refine ⟨?_, ?_⟩
    · rw [xU_k (by decide), xU_k (by decide), xU_at, if_neg (by omega)]; exact ih.1
    · rw [xU_k (by decide), xU_at, if_neg (by omega), xU_k (by decide)]; exact ih.2
theorem acN_v {z a : gX} (e : ∀ k : Int, k ≠ 6 → k ≠ 7 → k ≠ 15 → a k = z k) (i h : Int) : vU a i h = vU z i h := by
  show (fun (p mm he k g bb hd s : Int) => if sComes k g bb h then (if 0 < sBurn p mm k bb hd h - he - 2 * s then (0 : Int) else 1) else 2) (a 11 0 0) (a 12 0 0) (a 13 0 0) (a 1 i 0) (a 2 i 0) (a 3 i 0) (a 4 i 0) (a 5 i 0) = (fun (p mm he k g bb hd s : Int) => if sComes k g bb h then (if 0 < sBurn p mm k bb hd h - he - 2 * s then (0 : Int) else 1) else 2) (z 11 0 0) (z 12 0 0) (z 13 0 0) (z 1 i 0) (z 2 i 0) (z 3 i 0) (z 4 i 0) (z 5 i 0)
  rw [e 1 (by decide) (by decide) (by decide), e 2 (by decide) (by decide) (by decide), e 3 (by decide) (by decide) (by decide), e 4 (by decide) (by decide) (by decide), e 5 (by decide) (by decide) (by decide), e 11 (by decide) (by decide) (by decide), e 12 (by decide) (by decide) (by decide), e 13 (by decide) (by decide) (by decide)]
theorem try_3 {a : gX} {i : Int} (hN : NOK a) (h0 : 0 ≤ i) (h1 : i < a 10 0 0) (h6 : a 6 i 0 = -9) (h7 : a 7 i 0 = 0) : actM a 2 i 15 0 0 = sBeh (a 14 0 0) (tvU a i) (tcU a + if tvU a i = 1 then 1 else 0) (a 15 0 0) ∧ tcU (actM a 2 i) = tcU a + (if tvU a i = 1 then 1 else 0) ∧ twU (actM a 2 i) = twU a + if sWr (a 2 i 0) (tvU a i) then 1 else 0 := by
  have s0 := try_sn hN h0 h1 h6 h7 (k := 0) (by decide) (by decide)
  have s2 := try_sn hN h0 h1 h6 h7 (k := 2) (by decide) (by decide)
  have s3 := try_sn hN h0 h1 h6 h7 (k := 3) (by decide) (by decide)
  rw [if_pos rfl] at s0
  rw [if_neg (by decide), if_neg (by decide), if_pos rfl] at s2
  rw [if_neg (by decide), if_neg (by decide), if_neg (by decide), if_pos rfl] at s3
  exact ⟨s0, s2, s3⟩
theorem acN_ev {z : gX} {f : Int → Int} (hN : NOK z) (hU : UW z) : ∀ n : Nat, LN z f (n : Int) → NOK (acN z f n) ∧ acN z f n 15 0 0 = (evN z f n).2.2 ∧ tcU (acN z f n) = (evN z f n).2.1 ∧ twU (acN z f n) = twU z + (evN z f n).1
  | 0, _ => ⟨hN, rfl, rfl, (Int.add_zero _).symm⟩
  | n + 1, h => by
    obtain ⟨hM, e15, etc, etw⟩ := acN_ev hN hU n ⟨fun j a b => h.1 j a (by omega), fun j k a b c => h.2 j k a b (by omega)⟩
    have hf := h.1 (n : Int) (by omega) (by omega)
    have hi := acN_i z f (i := f (n : Int)) n (fun j a b => h.2 j (n : Int) a b (by omega))
    have h10 : acN z f n 10 0 0 = z 10 0 0 := by rw [acN_k z f (by decide) (by decide) (by decide)]
    have h6 : acN z f n 6 (f (n : Int)) 0 = -9 := by rw [hi.1]; exact hf.2
    have h7 : acN z f n 7 (f (n : Int)) 0 = 0 := by rw [hi.2]; exact hU _ hf.1.1 hf.1.2 hf.2
    have t := try_3 hM hf.1.1 (by rw [h10]; exact hf.1.2) h6 h7
    have ev : tvU (acN z f n) (f (n : Int)) = vU z (f (n : Int)) (evN z f n).2.2 := by
      show vU (acN z f n) (f (n : Int)) (acN z f n 15 0 0) = _
      rw [e15]
      exact acN_v (fun k a b c => acN_k z f a b c n) _ _
    rw [ev, etc, etw, e15, acN_k z f (k := 14) (by decide) (by decide) (by decide), acN_k z f (k := 2) (by decide) (by decide) (by decide)] at t
    refine ⟨actM_NOK2 hM (by unfold wOK; rw [h10]; have := hf.1; omega) (fun q => absurd q (by decide)), t.1, t.2.1, ?_⟩
    show twU (actM (acN z f n) 2 (f (n : Int))) = twU z + ((evN z f n).1 + _)
    rw [t.2.2, Int.add_assoc]
theorem acZ_ev {z : gX} {f : Int → Int} {n : Int} (hN : NOK z) (hU : UW z) (hn : 0 ≤ n) (h : LN z f n) : NOK (acZ z f n) ∧ acZ z f n 15 0 0 = (evZ z f n).2.2 ∧ tcU (acZ z f n) = (evZ z f n).2.1 ∧ twU (acZ z f n) = twU z + (evZ z f n).1 := acN_ev hN hU n.toNat (by rw [Int.toNat_of_nonneg hn]; exact h)
/-- behind the court of now, in its last place -/
def WLP (z : gX) (y w : gY) (Z : gX) : Prop := (∀ k : Int, k ≠ 40 → w k = y k) ∧ (∀ j : Int, j < 2628 → w 40 j = y 40 j) ∧ SB Z w 2628
theorem WLP_0 {z : gX} {y : gY} (h : SB z y 0) : WLP z y (ltY y 17) z := ⟨fun k hk => ltY_k y 17 hk, fun j hj => ltY_o y 17 hj, ltY_SB h⟩
theorem WLP_s {z Z : gX} {y w u : gY} {i : Int} (h : WLP z y w Z) (g : TRP Z w u 2628 i) : WLP z y u (actM Z 2 i) := ⟨fun k hk => (g.1 k hk).trans (h.1 k hk), fun j hj => (g.2.1 j (by omega)).trans (h.2.1 j hj), g.2.2⟩
theorem WLP_ST {z Z : gX} {y w : gY} (h : WLP z y w Z) (hS : ST z y) (e : ∀ k : Int, k ≠ 6 → k ≠ 7 → k ≠ 15 → Z k = z k) : ST Z w := by
  have q := h.1
  unfold ST
  rw [q 1 (by decide), q 2 (by decide), q 3 (by decide), q 4 (by decide), q 5 (by decide), q 41 (by decide), q 42 (by decide), q 43 (by decide), q 44 (by decide), e 1 (by decide) (by decide) (by decide), e 2 (by decide) (by decide) (by decide), e 3 (by decide) (by decide) (by decide), e 4 (by decide) (by decide) (by decide), e 10 (by decide) (by decide) (by decide), e 11 (by decide) (by decide) (by decide), e 12 (by decide) (by decide) (by decide), e 13 (by decide) (by decide) (by decide), e 14 (by decide) (by decide) (by decide)]
  exact hS
set_option maxRecDepth 20000 in
theorem c_X8_layTried (l : Launch) (D : gD) (ad : gA) (x : gX) (y : gY)   : gC l D ad 0 yX8_layTried cX8_layTried 2 none [.ref (ad 8 (0))] x y (pV (x) (ltY y 17)) := by
  refine g_met RX8 rfl (by decide +kernel) [(0, .ref (ad 8 (0)))] rfl (Nat.le_of_ble_eq_true rfl) (fun Θ F hR => ?_)
  refine g_iconst F dX8_layTried_0 (0) (by decide) ?_
  refine g_istore_n F [(1, .int (J (0))), (0, .ref (ad 8 (0)))] dX8_layTried_1 rfl (by decide) rfl ?_
  have L2 : ∀ (N : Nat) (q : Int), 0 ≤ q ∧ q ≤ 17 → (17 - q).toNat < N → gW Θ l D ad 2 2 [(0, .ref (ad 8 (0))), (1, .int (J (q)))] [] x (ltY y q) := by
    intro N
    induction N with
    | zero => intro q hq hFu; omega
    | succ N ih2 =>
      intro q hq hFu
      refine g_iload_n F dX8_layTried_2 rfl 1 rfl ?_
      refine g_bipush F dX8_layTried_3 (17) (by decide) ?_
      refine g_icmp_ge 30 F dX8_layTried_5 (by omega) (by decide) rfl (fun c_1 => ?_) (fun c_1 => ?_)
      · skip
        exact g_vreturn F hR dX8_layTried_30 (pV_i rfl (by rw [show q = 17 by omega]))
      · skip
        refine g_aload_n F dX8_layTried_8 rfl 0 rfl ?_
        refine gg_Model_row F fk_X8_7 dX8_layTried_9 ?_
        refine g_sipush F dX8_layTried_12 (2628) (by decide) ?_
        refine g_iload_n F dX8_layTried_15 rfl 1 rfl ?_
        refine g_iadd F dX8_layTried_16 ?_
        refine g_aload_n F dX8_layTried_17 rfl 0 rfl ?_
        refine gg_Model_row F fk_X8_7 dX8_layTried_18 ?_
        refine g_iload_n F dX8_layTried_21 rfl 1 rfl ?_
        refine ga_40 F (by omega) dX8_layTried_22 ?_
        refine g_topi (b := y 40 q) (ltY_o _ _ (by omega)) ?_
        refine gs_40 F (by omega) dX8_layTried_23 ?_
        refine g_iinc F [(1, .int (J (q + 1))), (0, .ref (ad 8 (0)))] 1 rfl dX8_layTried_24 (by decide) rfl ?_
        refine g_goto F 2 dX8_layTried_27 rfl ?_
        refine g_sub [1, 0] (lv' := [(0, .ref (ad 8 (0))), (1, .int (J (q + 1)))]) rfl ?_
        exact gW_eq (ih2 (q + 1) (by omega) (by omega)) rfl rfl rfl (rfl) (ltY_s _ (by omega))
  refine g_sub [1, 0] (lv' := [(0, .ref (ad 8 (0))), (1, .int (J (0)))]) rfl ?_
  exact gW_eq (L2 _ (0) (by omega) (Nat.lt_succ_self _)) rfl rfl rfl (rfl) ((ltY_0 _).symm)

set_option maxRecDepth 20000 in
theorem c_X8_swapLine (l : Launch) (D : gD) (ad : gA) (x : gX) (y : gY) (a b : Int) (ha : 0 ≤ a ∧ a < 6) (hb : 0 ≤ b ∧ b < 6) : gC l D ad 0 yX8_swapLine cX8_swapLine 4 none [.ref (ad 8 (0)), .int (J (a)), .int (J (b))] x y (pV (x) (yU (yU y 52 a (y 52 b)) 52 b (y 52 a))) := by
  refine g_met RX8 rfl (by decide +kernel) [(0, .ref (ad 8 (0))), (1, .int (J (a))), (2, .int (J (b)))] rfl (Nat.le_of_ble_eq_true rfl) (fun Θ F hR => ?_)
  refine g_aload_n F dX8_swapLine_0 rfl 0 rfl ?_
  refine gg_Model_line F fk_X8_50 dX8_swapLine_1 ?_
  refine g_iload_n F dX8_swapLine_4 rfl 1 rfl ?_
  refine ga_52 F (by omega) dX8_swapLine_5 ?_
  refine g_istore_n F [(3, .int (J (y 52 (a)))), (0, .ref (ad 8 (0))), (1, .int (J (a))), (2, .int (J (b)))] dX8_swapLine_6 rfl (by decide) rfl ?_
  refine g_aload_n F dX8_swapLine_7 rfl 1 rfl ?_
  refine gg_Model_line F fk_X8_50 dX8_swapLine_8 ?_
  refine g_iload_n F dX8_swapLine_11 rfl 2 rfl ?_
  refine g_aload_n F dX8_swapLine_12 rfl 1 rfl ?_
  refine gg_Model_line F fk_X8_50 dX8_swapLine_13 ?_
  refine g_iload_n F dX8_swapLine_16 rfl 3 rfl ?_
  refine ga_52 F (by omega) dX8_swapLine_17 ?_
  refine gs_52 F (by omega) dX8_swapLine_18 ?_
  refine g_aload_n F dX8_swapLine_19 rfl 1 rfl ?_
  refine gg_Model_line F fk_X8_50 dX8_swapLine_20 ?_
  refine g_iload_n F dX8_swapLine_23 rfl 3 rfl ?_
  refine g_iload_n F dX8_swapLine_24 rfl 0 rfl ?_
  refine gs_52 F (by omega) dX8_swapLine_25 ?_
  exact g_vreturn F hR dX8_swapLine_26 (pV_i rfl (by rfl))

set_option maxRecDepth 20000 in
theorem c_X8_wrongInLine (l : Launch) (D : gD) (ad : gA) (x : gX) (y : gY) (z : gX) (f : Int → Int) (n : Int) (hST : ST z y) (hN : NOK z) (hB : SB z y 0) (hU : UW z) (hn : 0 ≤ n ∧ n ≤ 6) (h14 : y 14 0 = n) (hl : ∀ j : Int, 0 ≤ j → j < n → y 52 j = f j) (hL : LN z f n) : gC l D ad 7 yX8_wrongInLine cX8_wrongInLine 2 (some .int) [.ref (ad 8 (0))] x y (pH (.int (J ((evZ z f n).1))) (x) (fun w9 => WLP z y w9 (acZ z f n))) := by
  refine g_met RX8 rfl (by decide +kernel) [(0, .ref (ad 8 (0)))] rfl (Nat.le_of_ble_eq_true rfl) (fun Θ F hR => ?_)
  have h10 := hN.2.1
  refine g_aload_n F dX8_wrongInLine_0 rfl 0 rfl ?_
  refine g_callV 0 F (As := []) (st := []) (c_X8_layTried l D ad x y  ) (gR_8) rfl mk_X8_256 ki_X8_layTried kc_X8_layTried (by decide +kernel) rfl (by decide) dX8_wrongInLine_1 rfl (Nat.le_of_ble_eq_true rfl) (pV_k ?_)
  refine g_iconst F dX8_wrongInLine_4 (0) (by decide) ?_
  refine g_istore_n F [(1, .int (J (0))), (0, .ref (ad 8 (0)))] dX8_wrongInLine_5 rfl (by decide) rfl ?_
  have L6 : ∀ (N : Nat) (w : gY) (j : Int), 0 ≤ j ∧ j ≤ n → WLP z y w (acZ z f j) → (n - j).toNat < N → gW Θ l D ad 2 6 [(0, .ref (ad 8 (0))), (1, .int (J (j)))] [] x w := by
    intro N
    induction N with
    | zero => intro w j hj hw hFu; omega
    | succ N ih6 =>
      intro w j hj hw hFu
      have hLj : LN z f j := ⟨fun a b c => hL.1 a b (by omega), fun a b c d e => hL.2 a b c d (by omega)⟩
      have hev := acZ_ev hN hU hj.1 hLj
      have hkk : ∀ k : Int, k ≠ 6 → k ≠ 7 → k ≠ 15 → acZ z f j k = z k := fun k a b c => acN_k z f a b c _
      have hSTw := WLP_ST hw hST hkk
      have hevr := evZ_r hN f hj.1
      have htw := twU_r hN
      refine g_iload_n F dX8_wrongInLine_6 rfl 1 rfl ?_
      refine g_aload_n F dX8_wrongInLine_7 rfl 0 rfl ?_
      refine gg_Model_lineSize F fk_X8_250 dX8_wrongInLine_8 ?_
      refine g_topi (b := n) ((congrFun (hw.1 14 (by decide)) 0).trans h14) ?_
      refine g_icmp_ge 34 F dX8_wrongInLine_11 (by omega) (by omega) rfl (fun c_1 => ?_) (fun c_1 => ?_)
      · skip
        refine g_aload_n F dX8_wrongInLine_34 rfl 0 rfl ?_
        refine gg_Model_row F fk_X8_7 dX8_wrongInLine_35 ?_
        refine g_sipush F dX8_wrongInLine_38 (2632) (by decide) ?_
        refine ga_40 F (by decide) dX8_wrongInLine_41 ?_
        refine g_topi (b := twU z + (evZ z f j).1) ((SB_3 hw.2.2).trans hev.2.2.2) ?_
        refine g_aload_n F dX8_wrongInLine_42 rfl 0 rfl ?_
        refine gg_Model_row F fk_X8_7 dX8_wrongInLine_43 ?_
        refine g_iconst F dX8_wrongInLine_46 (4) (by decide) ?_
        refine ga_40 F (by decide) dX8_wrongInLine_47 ?_
        refine g_topi (b := twU z) ((hw.2.1 4 (by decide)).trans (SB_03 hB)) ?_
        refine g_isub F dX8_wrongInLine_48 ?_
        exact g_ireturn F hR dX8_wrongInLine_49 (pH_z (by rw [show n = j by omega]; omega) (by rw [show n = j by omega]; exact hw) rfl)
      · skip
        have hfj := hL.1 j hj.1 (by omega)
        have haci := acN_i z f (i := f j) j.toNat (fun a b c => hL.2 a j b (by omega) (by omega))
        have h10j : acZ z f j 10 0 0 = z 10 0 0 := by rw [hkk 10 (by decide) (by decide) (by decide)]
        refine g_aload_n F dX8_wrongInLine_14 rfl 0 rfl ?_
        refine g_sipush F dX8_wrongInLine_15 (2628) (by decide) ?_
        refine g_aload_n F dX8_wrongInLine_18 rfl 0 rfl ?_
        refine gg_Model_line F fk_X8_50 dX8_wrongInLine_19 ?_
        refine g_iload_n F dX8_wrongInLine_22 rfl 1 rfl ?_
        refine ga_52 F (by omega) dX8_wrongInLine_23 ?_
        refine g_topi (b := f j) (by rw [hw.1 52 (by decide)]; exact hl j (by omega) (by omega)) ?_
        refine g_callV 2 F (As := [.int (J (2628)), .int (J (f j))]) (st := []) (c_X8_tryAt l D ad x w (acZ z f j) (2628) (f j) (hSTw) (hev.1) (hw.2.2) (by rw [h10j]; exact hfj.1) (by decide) (haci.1.trans hfj.2) (haci.2.trans (hU _ hfj.1.1 hfj.1.2 hfj.2))) (gR_8) rfl mk_X8_229 ki_X8_tryAt kc_X8_tryAt (by decide +kernel) rfl (by decide) dX8_wrongInLine_24 rfl (Nat.le_of_ble_eq_true rfl) (pH_k (fun v_24 hG_24 => ?_))
        refine g_pop F dX8_wrongInLine_27 rfl ?_
        refine g_iinc F [(1, .int (J (j + 1))), (0, .ref (ad 8 (0)))] 1 rfl dX8_wrongInLine_28 (by decide) rfl ?_
        refine g_goto F 6 dX8_wrongInLine_31 rfl ?_
        refine g_sub [1, 0] (lv' := [(0, .ref (ad 8 (0))), (1, .int (J (j + 1)))]) rfl ?_
        exact ih6 (v_24) (j + 1) (by omega) (by rw [acZ_s z f hj.1]; exact WLP_s hw hG_24) (by omega)
  refine g_sub [1, 0] (lv' := [(0, .ref (ad 8 (0))), (1, .int (J (0)))]) rfl ?_
  exact L6 _ ((ltY y 17)) (0) (by omega) (WLP_0 hB) (Nat.lt_succ_self _)
