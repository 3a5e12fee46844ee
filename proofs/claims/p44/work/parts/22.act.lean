theorem tcU_r2 {x : gX} (h : 0 ≤ x 10 0 0 ∧ x 10 0 0 ≤ 6) : 0 ≤ tcU x ∧ tcU x ≤ 100 := by have := tcU_r h.1; omega
theorem actM_w0 {x : gX} {w h : Int} (q : w = 0) : actM x w h = xU x 15 0 0 (kH (x 15 0 0 + h)) := by unfold actM; rw [if_pos q]
theorem actM_w1 {x : gX} {w h : Int} (q : w = 1) : actM x w h = xU x 5 h 0 (x 5 h 0 + 1) := by unfold actM; rw [if_neg (by omega), if_pos q]
theorem actM_w2 {x : gX} {w h : Int} (q : w = 2) : actM x w h = xU (xU (xU x 6 h 0 (vU x h (x 15 0 0))) 7 h 0 (if sWr (x 2 h 0) (vU x h (x 15 0 0)) then 1 else 0)) 15 0 0 (sBeh (x 14 0 0) (vU x h (x 15 0 0)) (tcU (xU x 6 h 0 (vU x h (x 15 0 0)))) (x 15 0 0)) := by unfold actM; rw [if_neg (by omega), if_neg (by omega), if_pos q]
theorem actM_w3 {x : gX} {w h : Int} (q : w ≠ 0 ∧ w ≠ 1 ∧ w ≠ 2) : actM x w h = x := by unfold actM; rw [if_neg q.1, if_neg q.2.1, if_neg q.2.2]
theorem wOK_rep {x : gX} {d j w h : Int} (hw : wOK x w h) : wOK (repM x d j) w h := by
  unfold wOK
  rw [repM_k (k := 10) (by decide) (by decide) (by decide) (by decide)]
  exact hw
/-- a court whose deeds can be done anew -/
abbrev NO0 (x : gX) : Prop := IOK x ∧ (0 ≤ x 10 0 0 ∧ x 10 0 0 ≤ 6) ∧ (∀ i : Int, 0 ≤ i → i < x 10 0 0 → (0 ≤ x 1 i 0 ∧ x 1 i 0 ≤ 5) ∧ (0 ≤ x 2 i 0 ∧ x 2 i 0 ≤ 1) ∧ (0 ≤ x 3 i 0 ∧ x 3 i 0 ≤ 9) ∧ (0 ≤ x 4 i 0 ∧ x 4 i 0 ≤ 9))
theorem NOK_0 {x : gX} (h : NOK x) : NO0 x := ⟨h.1, h.2.1, fun i h0 h1 => by obtain ⟨a1, a2, a3, a4, -⟩ := h.2.2.2 i h0 h1; exact ⟨a1, a2, a3, a4⟩⟩
theorem repN_NO0 {x : gX} {d n : Int} (hN : NO0 x) (hn : n ≤ 40) (hD : DOK x d n) : ∀ j : Nat, (j : Int) ≤ n → NOK (repN x d j) ∧ ∀ i : Int, 0 ≤ i → i < x 10 0 0 → repN x d j 5 i 0 ≤ (j : Int)
  | 0, _ => by
    have e : ∀ k i : Int, k = 5 ∨ k = 6 ∨ k = 7 → 0 ≤ i → i < x 10 0 0 → rsM (xU x 15 0 0 8) (x 10 0 0) k i 0 = if k = 6 then -9 else 0 := fun k i hk h0 h1 => by unfold rsM; rw [if_pos ⟨hk, h0, h1, rfl⟩]
    refine ⟨⟨hN.1, hN.2.1, (by show (0 : Int) ≤ 8 ∧ (8 : Int) ≤ 30; omega), fun i h0 h1 => ?_⟩, fun i h0 h1 => ?_⟩
    · obtain ⟨a1, a2, a3, a4⟩ := hN.2.2 i h0 h1
      refine ⟨a1, a2, a3, a4, ?_, ?_, ?_⟩
      · show 0 ≤ rsM (xU x 15 0 0 8) (x 10 0 0) 5 i 0 ∧ rsM (xU x 15 0 0 8) (x 10 0 0) 5 i 0 ≤ 100
        rw [e 5 i (by omega) h0 h1]; decide
      · show -9 ≤ rsM (xU x 15 0 0 8) (x 10 0 0) 6 i 0 ∧ rsM (xU x 15 0 0 8) (x 10 0 0) 6 i 0 ≤ 2
        rw [e 6 i (by omega) h0 h1]; decide
      · show 0 ≤ rsM (xU x 15 0 0 8) (x 10 0 0) 7 i 0 ∧ rsM (xU x 15 0 0 8) (x 10 0 0) 7 i 0 ≤ 1
        rw [e 7 i (by omega) h0 h1]; decide
    · show rsM (xU x 15 0 0 8) (x 10 0 0) 5 i 0 ≤ _
      rw [e 5 i (by omega) h0 h1]; simp
  | j + 1, hj => by
    have ih := repN_NO0 hN hn hD j (by omega)
    have e10 : repN x d j 10 = x 10 := repN_k (by decide) (by decide) (by decide) (by decide) j
    have hw := hD (j : Int) (by omega) (by omega)
    refine ⟨actM_NOK (m := (j : Int)) ih.1 (by omega) (fun i h0 h1 => ih.2 i h0 (by rw [e10] at h1; exact h1)) (by unfold wOK; rw [e10]; exact hw), fun i h0 h1 => ?_⟩
    have := actM_5 (w := x 21 d (j : Int)) (h := x 22 d (j : Int)) (ih.2 i h0 h1)
    show actM _ _ _ 5 i 0 ≤ ((j + 1 : Nat) : Int)
    omega
theorem repM_NO0 {x : gX} {d n j : Int} (hN : NO0 x) (hn : n ≤ 40) (hD : DOK x d n) (h0 : 0 ≤ j) (h1 : j ≤ n) : NOK (repM x d j) ∧ ∀ i : Int, 0 ≤ i → i < x 10 0 0 → repM x d j 5 i 0 ≤ j := by
  have := repN_NO0 hN hn hD j.toNat (by omega)
  rw [Int.toNat_of_nonneg h0] at this
  exact this
def perM (x : gX) (w h : Int) : gX := actM (xU (xU (xU x 21 0 (x 16 0 0) w) 22 0 (x 16 0 0) h) 16 0 0 (x 16 0 0 + 1)) w h
/-- a court out of what was read -/
def asH (x : gX) : gX := xU (xU (xU (xU (xU x 11 0 0 (x 23 0 0)) 12 0 0 (x 23 0 1)) 13 0 0 (x 23 0 2)) 14 0 0 (x 23 0 3)) 10 0 0 (x 36 0 0)
def asM (x : gX) (m : Int) : gX := fun k i j => if (1 ≤ k ∧ k ≤ 4) ∧ 0 ≤ i ∧ i < m ∧ j = 0 then x 23 0 (4 + 4 * i + (k - 1)) else asH x k i j
def asF (x : gX) : gX := xU (asM x (x 36 0 0)) 16 0 0 0
theorem asM_0 (x : gX) : asM x 0 = asH x := by funext k i j; unfold asM; rw [if_neg (by omega)]
theorem asM_k {x : gX} {m k : Int} (h : ¬ (1 ≤ k ∧ k ≤ 4)) : asM x m k = asH x k := by funext i j; unfold asM; rw [if_neg (fun q => h q.1)]
theorem asH_k {x : gX} {k : Int} (h10 : k ≠ 10) (h11 : k ≠ 11) (h12 : k ≠ 12) (h13 : k ≠ 13) (h14 : k ≠ 14) : asH x k = x k := by
  unfold asH
  rw [xU_k h10, xU_k h14, xU_k h13, xU_k h12, xU_k h11]
theorem asM_s (x : gX) {m : Int} (hm : 0 ≤ m) : xU (xU (xU (xU (asM x m) 1 m 0 (x 23 0 (4 + 4 * m))) 2 m 0 (x 23 0 (4 + 4 * m + 1))) 3 m 0 (x 23 0 (4 + 4 * m + 2))) 4 m 0 (x 23 0 (4 + 4 * m + 3)) = asM x (m + 1) := by
  funext k i j
  unfold xU asM
  by_cases h4 : k = 4 ∧ i = m ∧ j = 0
  · obtain ⟨rfl, rfl, rfl⟩ := h4
    rw [if_pos ⟨rfl, rfl, rfl⟩, if_pos (by omega)]; rfl
  · rw [if_neg h4]
    by_cases h3 : k = 3 ∧ i = m ∧ j = 0
    · obtain ⟨rfl, rfl, rfl⟩ := h3
      rw [if_pos ⟨rfl, rfl, rfl⟩, if_pos (by omega)]; rfl
    · rw [if_neg h3]
      by_cases h2 : k = 2 ∧ i = m ∧ j = 0
      · obtain ⟨rfl, rfl, rfl⟩ := h2
        rw [if_pos ⟨rfl, rfl, rfl⟩, if_pos (by omega)]; rfl
      · rw [if_neg h2]
        by_cases h1 : k = 1 ∧ i = m ∧ j = 0
        · obtain ⟨rfl, rfl, rfl⟩ := h1
          rw [if_pos ⟨rfl, rfl, rfl⟩, if_pos (by omega), Int.sub_self, Int.add_zero]
        · rw [if_neg h1]
          by_cases h : (1 ≤ k ∧ k ≤ 4) ∧ 0 ≤ i ∧ i < m ∧ j = 0
          · rw [if_pos h, if_pos (by omega)]
          · rw [if_neg h, if_neg (by omega)]
abbrev wtP (x : gX) (i r n : Int) : Prop := sumZ (fun q => if vU x i (x 20 r (2 * q)) = x 20 r (2 * q + 1) then 0 else 1) n = 0
abbrev ftP (x : gX) (r h n : Int) : Prop := sumZ (fun q => if vU x (x 20 r (2 * q)) h = x 20 r (2 * q + 1) then 0 else 1) n = 0
abbrev ftU (x : gX) (r : Int) : Int := bitsZ (fun h => ftP x r h (x 17 r 0 / 2)) 31
theorem mm_s {f : Int → Prop} [DecidablePred f] {n : Int} (h : 0 ≤ n) : sumZ (fun q => if f q then 0 else 1) (n + 1) = 0 ↔ sumZ (fun q => if f q then 0 else 1) n = 0 ∧ f n := by
  rw [mmZ_iff (by omega), mmZ_iff h]
  constructor
  · intro a; exact ⟨fun q h0 h1 => a q h0 (by omega), a n h (by omega)⟩
  · intro a q h0 h1
    rcases (show q < n ∨ q = n by omega) with e | e
    · exact a.1 q h0 e
    · rw [e]; exact a.2
theorem wt_s {x : gX} {i r j : Int} (h0 : 0 ≤ j) (h2 : j % 2 = 0) : wtP x i r ((j + 2) / 2) ↔ wtP x i r (j / 2) ∧ vU x i (x 20 r j) = x 20 r (j + 1) := by
  have e : (j + 2) / 2 = j / 2 + 1 := by omega
  have e2 : 2 * (j / 2) = j := by omega
  have := mm_s (f := fun q => vU x i (x 20 r (2 * q)) = x 20 r (2 * q + 1)) (n := j / 2) (by omega)
  unfold wtP
  rw [e]
  rw [e2] at this
  exact this
theorem ft_s {x : gX} {r h j : Int} (h0 : 0 ≤ j) (h2 : j % 2 = 0) : ftP x r h ((j + 2) / 2) ↔ ftP x r h (j / 2) ∧ vU x (x 20 r j) h = x 20 r (j + 1) := by
  have e : (j + 2) / 2 = j / 2 + 1 := by omega
  have e2 : 2 * (j / 2) = j := by omega
  have := mm_s (f := fun q => vU x (x 20 r (2 * q)) h = x 20 r (2 * q + 1)) (n := j / 2) (by omega)
  unfold ftP
  rw [e]
  rw [e2] at this
  exact this
/-- a stretch of places is not all well -/
theorem wt_no {x : gX} {i r j n : Int} (h0 : 0 ≤ j) (h2 : j % 2 = 0) (hn : j + 1 < n) (hv : vU x i (x 20 r j) ≠ x 20 r (j + 1)) : ¬ wtP x i r (n / 2) := by
  intro q
  have q2 := (mmZ_iff (P := fun q => vU x i (x 20 r (2 * q)) = x 20 r (2 * q + 1)) (by omega)).mp q (j / 2) (by omega) (by omega)
  rw [show 2 * (j / 2) = j by omega] at q2
  exact hv q2
theorem ft_all {x : gX} {r : Int} : (2147483647 : Int) = bitsZ (fun h => ftP x r h (0 / 2)) 31 := by
  have e : bitsZ (fun _ => True) 31 = 2147483647 := by decide +kernel
  rw [← e]
  exact bitsZ_cong (fun h _ _ => ⟨fun _ => rfl, fun _ => trivial⟩)
set_option maxRecDepth 20000 in
theorem c_X0_act (l : Launch) (D : gD) (ad : gA) (x : gX) (y : gY) (w h : Int) (hN : NOK x) (hw : wOK x w h) (hs : w = 1 → x 5 h 0 ≤ 60) : gC l D ad 4 yX0_act cX0_act 4 none [.ref (ad 0 (0)), .int (J (w)), .int (J (h))] x y (pV (actM x w h) (y)) := by
  refine g_met RX0 rfl (by decide +kernel) [(0, .ref (ad 0 (0))), (1, .int (J (w))), (2, .int (J (h)))] rfl (Nat.le_of_ble_eq_true rfl) (fun Θ F hR => ?_)
  refine g_iload_n F dX0_act_0 rfl 1 rfl ?_
  have rs_1 : i32 (w) := (by omega)
  rcases (show w = 0 ∨ w = 1 ∨ w = 2 ∨ (w ≠ 0 ∧ w ≠ 1 ∧ w ≠ 2) by omega) with s_1 | s_1 | s_1 | s_1
  · skip
    refine g_switch F 28 dX0_act_1 rs_1 (by omega) (by omega) (by rw [s_1]; rfl) rfl ?_
    refine g_aload_n F dX0_act_28 rfl 0 rfl ?_
    refine g_aload_n F dX0_act_29 rfl 0 rfl ?_
    refine gg_Court_heat F fk_X0_31 dX0_act_30 ?_
    refine g_iload_n F dX0_act_33 rfl 2 rfl ?_
    refine g_iadd F dX0_act_34 ?_
    refine g_callS 1 F (As := [.int (J ((x 15 (0) (0)) + (h)))]) (st := [.ref (ad 0 (0))]) (c_X0_keptHeat l D ad x y ((x 15 (0) (0)) + (h)) (by omega)) rfl mk_X0_112 ki_X0_keptHeat kc_X0_keptHeat (by decide +kernel) rfl (by decide) dX0_act_35 rfl (Nat.le_of_ble_eq_true rfl) (pI_k ?_)
    refine gp_Court_heat F fk_X0_31 dX0_act_38 ?_
    refine g_goto F 117 dX0_act_41 rfl ?_
    exact g_vreturn F hR dX0_act_117 (pV_i (by first | exact (actM_w0 s_1).symm | exact (actM_w1 s_1).symm | exact (actM_w2 s_1).symm | exact (actM_w3 s_1).symm) rfl)
  · skip
    refine g_switch F 44 dX0_act_1 rs_1 (by omega) (by omega) (by rw [s_1]; rfl) rfl ?_
    have hb := hw.2.2 (by omega)
    have hm := hN.2.2.2 h hb.1 hb.2
    refine g_aload_n F dX0_act_44 rfl 0 rfl ?_
    refine gg_Court_men F fk_X0_11 dX0_act_45 ?_
    refine g_iload_n F dX0_act_48 rfl 2 rfl ?_
    refine ga_32 F (by omega) dX0_act_49 ?_
    refine g_dup F dX0_act_50 rfl ?_
    refine ggN_Man_salve F (by omega) fk_X0_90 dX0_act_51 ?_
    refine g_iconst F dX0_act_54 (1) (by decide) ?_
    refine g_iadd F dX0_act_55 ?_
    refine gpN_Man_salve F (by omega) fk_X0_90 dX0_act_56 ?_
    refine g_goto F 117 dX0_act_59 rfl ?_
    exact g_vreturn F hR dX0_act_117 (pV_i (by first | exact (actM_w0 s_1).symm | exact (actM_w1 s_1).symm | exact (actM_w2 s_1).symm | exact (actM_w3 s_1).symm) rfl)
  · skip
    refine g_switch F 62 dX0_act_1 rs_1 (by omega) (by omega) (by rw [s_1]; rfl) rfl ?_
    have hb := hw.2.2 (by omega)
    have hm := hN.2.2.2 h hb.1 hb.2
    have hv := vU_r x h (x 15 0 0)
    refine g_aload_n F dX0_act_62 rfl 0 rfl ?_
    refine gg_Court_men F fk_X0_11 dX0_act_63 ?_
    refine g_iload_n F dX0_act_66 rfl 2 rfl ?_
    refine ga_32 F (by omega) dX0_act_67 ?_
    refine g_astore_n F [(3, .ref (ad 3 (h))), (0, .ref (ad 0 (0))), (1, .int (J (w))), (2, .int (J (h)))] dX0_act_68 rfl (by decide) rfl ?_
    refine g_aload_n F dX0_act_69 rfl 0 rfl ?_
    refine g_aload_n F dX0_act_70 rfl 1 rfl ?_
    refine g_aload_n F dX0_act_71 rfl 0 rfl ?_
    refine g_aload_n F dX0_act_72 rfl 1 rfl ?_
    refine gg_Court_heat F fk_X0_31 dX0_act_73 ?_
    refine g_callV 2 F (As := [.ref (ad 3 (h)), .int (J (x 15 (0) (0)))]) (st := [.ref (ad 3 (h))]) (c_X0_verdict l D ad x y (h) (x 15 (0) (0)) (by omega) (hN.1) (hN.2.2.2 _ (by omega) (by omega)) (by omega)) (gR_0) rfl mk_X0_116 ki_X0_verdict kc_X0_verdict (by decide +kernel) rfl (by decide) dX0_act_76 rfl (Nat.le_of_ble_eq_true rfl) (pI_k ?_)
    refine gpN_Man_verdict F (by omega) fk_X0_93 dX0_act_79 ?_
    refine g_aload_n F dX0_act_82 rfl 0 rfl ?_
    refine g_aload_n F dX0_act_83 rfl 0 rfl ?_
    refine g_aload_n F dX0_act_84 rfl 0 rfl ?_
    refine ggN_Man_verdict F (by omega) fk_X0_93 dX0_act_85 ?_
    refine g_topi (b := vU x (h) (x 15 (0) (0))) (by simp [xU]) ?_
    refine g_callV 1 F (As := [.int (J (vU x (h) (x 15 (0) (0))))]) (st := [.ref (ad 3 (h))]) (c_X3_wrongedBy l D ad (xU x 6 (h) (0) (vU x (h) (x 15 (0) (0)))) y (h) (vU x (h) (x 15 (0) (0))) (by omega) (MOK_6 hm (by omega)) (by omega)) (gR_3 (by omega)) rfl mk_X0_118 ki_X3_wrongedBy kc_X3_wrongedBy (by decide +kernel) rfl (by decide) dX0_act_88 rfl (Nat.le_of_ble_eq_true rfl) (pB_k ?_)
    refine gpN_Man_wronged F (by omega) (by split <;> omega) fk_X0_121 dX0_act_91 ?_
    refine g_aload_n F dX0_act_94 rfl 1 rfl ?_
    refine g_aload_n F dX0_act_95 rfl 1 rfl ?_
    refine g_aload_n F dX0_act_96 rfl 0 rfl ?_
    refine ggN_Man_verdict F (by omega) fk_X0_93 dX0_act_97 ?_
    refine g_topi (b := vU x (h) (x 15 (0) (0))) (by simp [xU]) ?_
    refine g_aload_n F dX0_act_100 rfl 1 rfl ?_
    refine g_callV 0 F (As := []) (st := [.int (J (vU x (h) (x 15 (0) (0)))), .ref (ad 0 (0)), .ref (ad 0 (0))]) (c_X0_toldClean l D ad (xU (xU x 6 (h) (0) (vU x (h) (x 15 (0) (0)))) 7 (h) (0) (if sWr ((xU x 6 (h) (0) (vU x (h) (x 15 (0) (0)))) 2 (h) 0) (vU x (h) (x 15 (0) (0))) then 1 else 0)) y  (NOK_7 (NOK_6 hN (by omega)) (by split <;> omega))) (gR_0) rfl mk_X0_125 ki_X0_toldClean kc_X0_toldClean (by decide +kernel) rfl (by decide) dX0_act_101 rfl (Nat.le_of_ble_eq_true rfl) (pI_k ?_)
    refine g_aload_n F dX0_act_104 rfl 1 rfl ?_
    refine gg_Court_heat F fk_X0_31 dX0_act_105 ?_
    refine g_topi (b := x 15 (0) (0)) (by simp [xU]) ?_
    refine g_callV 3 F (As := [.int (J (vU x (h) (x 15 (0) (0)))), .int (J (tcU (xU (xU x 6 (h) (0) (vU x (h) (x 15 (0) (0)))) 7 (h) (0) (if sWr ((xU x 6 (h) (0) (vU x (h) (x 15 (0) (0)))) 2 (h) 0) (vU x (h) (x 15 (0) (0))) then 1 else 0)))), .int (J (x 15 (0) (0)))]) (st := [.ref (ad 0 (0))]) (c_X0_heatBehind l D ad (xU (xU x 6 (h) (0) (vU x (h) (x 15 (0) (0)))) 7 (h) (0) (if sWr ((xU x 6 (h) (0) (vU x (h) (x 15 (0) (0)))) 2 (h) 0) (vU x (h) (x 15 (0) (0))) then 1 else 0)) y (vU x (h) (x 15 (0) (0))) (tcU (xU (xU x 6 (h) (0) (vU x (h) (x 15 (0) (0)))) 7 (h) (0) (if sWr ((xU x 6 (h) (0) (vU x (h) (x 15 (0) (0)))) 2 (h) 0) (vU x (h) (x 15 (0) (0))) then 1 else 0))) (x 15 (0) (0)) (hN.1) (by omega) (tcU_r2 hN.2.1) (by omega)) (gR_0) rfl mk_X0_128 ki_X0_heatBehind kc_X0_heatBehind (by decide +kernel) rfl (by decide) dX0_act_108 rfl (Nat.le_of_ble_eq_true rfl) (pI_k ?_)
    refine gp_Court_heat F fk_X0_31 dX0_act_111 ?_
    refine g_goto F 117 dX0_act_114 rfl ?_
    exact g_vreturn F hR dX0_act_117 (pV_i (by first | exact (actM_w0 s_1).symm | exact (actM_w1 s_1).symm | exact (actM_w2 s_1).symm | exact (actM_w3 s_1).symm) rfl)
  · skip
    refine g_switchD F 117 dX0_act_1 rs_1 (by omega) rfl ?_
    exact g_vreturn F hR dX0_act_117 (pV_i (by first | exact (actM_w0 s_1).symm | exact (actM_w1 s_1).symm | exact (actM_w2 s_1).symm | exact (actM_w3 s_1).symm) rfl)

set_option maxRecDepth 20000 in
theorem c_X0_actAgain (l : Launch) (D : gD) (ad : gA) (x : gX) (y : gY)  (hN : NO0 x) (hn : 0 ≤ x 16 0 0 ∧ x 16 0 0 ≤ 40) (hD : DOK x 0 (x 16 0 0)) : gC l D ad 5 yX0_actAgain cX0_actAgain 2 none [.ref (ad 0 (0))] x y (pV (repM x 0 (x 16 0 0)) (y)) := by
  refine g_met RX0 rfl (by decide +kernel) [(0, .ref (ad 0 (0)))] rfl (Nat.le_of_ble_eq_true rfl) (fun Θ F hR => ?_)
  refine g_aload_n F dX0_actAgain_0 rfl 0 rfl ?_
  refine g_bipush F dX0_actAgain_1 (8) (by decide) ?_
  refine gp_Court_heat F fk_X0_31 dX0_actAgain_3 ?_
  refine g_iconst F dX0_actAgain_6 (0) (by decide) ?_
  refine g_istore_n F [(1, .int (J (0))), (0, .ref (ad 0 (0)))] dX0_actAgain_7 rfl (by decide) rfl ?_
  have L8 : ∀ (N : Nat) (j : Int), 0 ≤ j ∧ j ≤ x 10 0 0 → (x 10 0 0 - j).toNat < N → gW Θ l D ad 2 8 [(0, .ref (ad 0 (0))), (1, .int (J (j)))] [] (rsM (xU x 15 0 0 8) j) y := by
    intro N
    induction N with
    | zero => intro j hj hFu; omega
    | succ N ih8 =>
      intro j hj hFu
      refine g_iload_n F dX0_actAgain_8 rfl 1 rfl ?_
      refine g_aload_n F dX0_actAgain_9 rfl 0 rfl ?_
      refine gg_Court_size F fk_X0_55 dX0_actAgain_10 ?_
      refine g_topi (b := x 10 0 0) (by rw [rsM_k (by decide) (by decide) (by decide)]; rfl) ?_
      refine g_icmp_ge 31 F dX0_actAgain_13 (by omega) (by omega) rfl (fun c_1 => ?_) (fun c_1 => ?_)
      · skip
        refine g_iconst F dX0_actAgain_31 (0) (by decide) ?_
        refine g_istore_n F [(1, .int (J (0))), (0, .ref (ad 0 (0)))] dX0_actAgain_32 rfl (by decide) rfl ?_
        have L33 : ∀ (N : Nat) (j : Int), 0 ≤ j ∧ j ≤ x 16 0 0 → (x 16 0 0 - j).toNat < N → gW Θ l D ad 2 33 [(0, .ref (ad 0 (0))), (1, .int (J (j)))] [] (repM x 0 j) y := by
          intro N
          induction N with
          | zero => intro j hj hFu; omega
          | succ N ih33 =>
            intro j hj hFu
            refine g_iload_n F dX0_actAgain_33 rfl 1 rfl ?_
            refine g_aload_n F dX0_actAgain_34 rfl 0 rfl ?_
            refine gg_Court_deeds F fk_X0_27 dX0_actAgain_35 ?_
            refine ggN_Deeds_size F (by decide) fk_X0_62 dX0_actAgain_38 ?_
            refine g_topi (b := x 16 0 0) (by rw [repM_k (by decide) (by decide) (by decide) (by decide)]) ?_
            refine g_icmp_ge 72 F dX0_actAgain_41 (by omega) (by omega) rfl (fun c_2 => ?_) (fun c_2 => ?_)
            · skip
              exact g_vreturn F hR dX0_actAgain_72 (pV_i (by rw [show j = x 16 0 0 by omega]) rfl)
            · skip
              refine g_aload_n F dX0_actAgain_44 rfl 0 rfl ?_
              refine g_aload_n F dX0_actAgain_45 rfl 0 rfl ?_
              refine gg_Court_deeds F fk_X0_27 dX0_actAgain_46 ?_
              refine ggN_Deeds_whats F (by decide) fk_X0_106 dX0_actAgain_49 ?_
              refine g_iload_n F dX0_actAgain_52 rfl 1 rfl ?_
              refine ga_21 F (by decide) (by omega) dX0_actAgain_53 ?_
              refine g_topi (b := x 21 0 j) (by rw [repM_k (by decide) (by decide) (by decide) (by decide)]) ?_
              refine g_aload_n F dX0_actAgain_54 rfl 0 rfl ?_
              refine gg_Court_deeds F fk_X0_27 dX0_actAgain_55 ?_
              refine ggN_Deeds_hows F (by decide) fk_X0_109 dX0_actAgain_58 ?_
              refine g_iload_n F dX0_actAgain_61 rfl 1 rfl ?_
              refine ga_22 F (by decide) (by omega) dX0_actAgain_62 ?_
              refine g_topi (b := x 22 0 j) (by rw [repM_k (by decide) (by decide) (by decide) (by decide)]) ?_
              refine g_callV 2 F (As := [.int (J (x 21 0 j)), .int (J (x 22 0 j))]) (st := []) (c_X0_act l D ad (repM x 0 j) y (x 21 0 j) (x 22 0 j) ((repM_NO0 hN hn.2 hD (by omega) (by omega)).1) (wOK_rep (hD j (by omega) (by omega))) (fun q => by have h1 := (hD j (by omega) (by omega)).2.2 (by omega); have h2 := (repM_NO0 (j := j) hN hn.2 hD (by omega) (by omega)).2 _ h1.1 h1.2; omega)) (gR_0) rfl mk_X0_100 ki_X0_act kc_X0_act (by decide +kernel) rfl (by decide) dX0_actAgain_63 rfl (Nat.le_of_ble_eq_true rfl) (pV_k ?_)
              refine g_iinc F [(1, .int (J (j + 1))), (0, .ref (ad 0 (0)))] 1 rfl dX0_actAgain_66 (by decide) rfl ?_
              refine g_goto F 33 dX0_actAgain_69 rfl ?_
              refine g_sub [1, 0] (lv' := [(0, .ref (ad 0 (0))), (1, .int (J (j + 1)))]) rfl ?_
              exact gW_eq (ih33 (j + 1) (by omega) (by omega)) rfl rfl rfl ((repM_s x 0 (by omega)).symm) (rfl)
        refine g_sub [1, 0] (lv' := [(0, .ref (ad 0 (0))), (1, .int (J (0)))]) rfl ?_
        exact gW_eq (L33 _ (0) (by omega) (Nat.lt_succ_self _)) rfl rfl rfl (by rw [show j = x 10 0 0 by omega]; rfl) (rfl)
      · skip
        refine g_aload_n F dX0_actAgain_16 rfl 0 rfl ?_
        refine gg_Court_men F fk_X0_11 dX0_actAgain_17 ?_
        refine g_iload_n F dX0_actAgain_20 rfl 1 rfl ?_
        refine ga_32 F (by omega) dX0_actAgain_21 ?_
        refine g_callV 0 F (As := []) (st := []) (c_X3_forgetDeeds l D ad (rsM (xU x 15 0 0 8) j) y (j) (by omega)) (gR_3 (by omega)) rfl mk_X0_103 ki_X3_forgetDeeds kc_X3_forgetDeeds (by decide +kernel) rfl (by decide) dX0_actAgain_22 rfl (Nat.le_of_ble_eq_true rfl) (pV_k ?_)
        refine g_iinc F [(1, .int (J (j + 1))), (0, .ref (ad 0 (0)))] 1 rfl dX0_actAgain_25 (by decide) rfl ?_
        refine g_goto F 8 dX0_actAgain_28 rfl ?_
        refine g_sub [1, 0] (lv' := [(0, .ref (ad 0 (0))), (1, .int (J (j + 1)))]) rfl ?_
        exact gW_eq (ih8 (j + 1) (by omega) (by omega)) rfl rfl rfl (rsM_s _ (by omega)) (rfl)
  refine g_sub [1, 0] (lv' := [(0, .ref (ad 0 (0))), (1, .int (J (0)))]) rfl ?_
  exact gW_eq (L8 _ (0) (by omega) (Nat.lt_succ_self _)) rfl rfl rfl ((rsM_0 _).symm) (rfl)

set_option maxRecDepth 20000 in
theorem c_X0_perform (l : Launch) (D : gD) (ad : gA) (x : gX) (y : gY) (w h : Int) (hN : NOK x) (hn : 0 ≤ x 16 0 0 ∧ x 16 0 0 < 40) (hw : wOK x w h) (hs : w = 1 → x 5 h 0 ≤ 60) : gC l D ad 5 yX0_perform cX0_perform 3 none [.ref (ad 0 (0)), .int (J (w)), .int (J (h))] x y (pV (perM x w h) (y)) := by
  refine g_met RX0 rfl (by decide +kernel) [(0, .ref (ad 0 (0))), (1, .int (J (w))), (2, .int (J (h)))] rfl (Nat.le_of_ble_eq_true rfl) (fun Θ F hR => ?_)
  refine g_aload_n F dX0_perform_0 rfl 0 rfl ?_
  refine gg_Court_deeds F fk_X0_27 dX0_perform_1 ?_
  refine g_iload_n F dX0_perform_4 rfl 1 rfl ?_
  refine g_iload_n F dX0_perform_5 rfl 2 rfl ?_
  refine g_callV 2 F (As := [.int (J (w)), .int (J (h))]) (st := []) (c_X1_add l D ad x y (0) (w) (h) (by omega) (by omega)) (gR_1 (by decide)) rfl mk_X0_96 ki_X1_add kc_X1_add (by decide +kernel) rfl (by decide) dX0_perform_6 rfl (Nat.le_of_ble_eq_true rfl) (pV_k ?_)
  refine g_aload_n F dX0_perform_9 rfl 0 rfl ?_
  refine g_iload_n F dX0_perform_10 rfl 1 rfl ?_
  refine g_iload_n F dX0_perform_11 rfl 2 rfl ?_
  refine g_callV 2 F (As := [.int (J (w)), .int (J (h))]) (st := []) (c_X0_act l D ad (xU (xU (xU x 21 (0) (x 16 (0) 0) (w)) 22 (0) (x 16 (0) 0) (h)) 16 (0) 0 (x 16 (0) 0 + 1)) y (w) (h) (hN) (hw) (hs)) (gR_0) rfl mk_X0_100 ki_X0_act kc_X0_act (by decide +kernel) rfl (by decide) dX0_perform_12 rfl (Nat.le_of_ble_eq_true rfl) (pV_k ?_)
  exact g_vreturn F hR dX0_perform_15 (pV_i (by rfl) rfl)

set_option maxRecDepth 20000 in
theorem c_X0_assemble (l : Launch) (D : gD) (ad : gA) (x : gX) (y : gY)  (hm : 0 ≤ x 36 0 0 ∧ x 36 0 0 ≤ 6) (hZ : NO0 (asF x)) : gC l D ad 6 yX0_assemble cX0_assemble 5 none [.ref (ad 0 (0)), .ref (ad 5 (0))] x y (pV (repM (asF x) 0 0) (y)) := by
  refine g_met RX0 rfl (by decide +kernel) [(0, .ref (ad 0 (0))), (1, .ref (ad 5 (0)))] rfl (Nat.le_of_ble_eq_true rfl) (fun Θ F hR => ?_)
  refine g_aload_n F dX0_assemble_0 rfl 1 rfl ?_
  refine ggN_Reader_numbers F fk_X0_35 dX0_assemble_1 ?_
  refine g_astore_n F [(2, .ref (ad 23 (0))), (0, .ref (ad 0 (0))), (1, .ref (ad 5 (0)))] dX0_assemble_4 rfl (by decide) rfl ?_
  refine g_aload_n F dX0_assemble_5 rfl 1 rfl ?_
  refine g_aload_n F dX0_assemble_6 rfl 0 rfl ?_
  refine g_iconst F dX0_assemble_7 (0) (by decide) ?_
  refine ga_23 F (by decide) dX0_assemble_8 ?_
  refine gp_Court_pounds F fk_X0_41 dX0_assemble_9 ?_
  refine g_aload_n F dX0_assemble_12 rfl 1 rfl ?_
  refine g_aload_n F dX0_assemble_13 rfl 0 rfl ?_
  refine g_iconst F dX0_assemble_14 (1) (by decide) ?_
  refine ga_23 F (by decide) dX0_assemble_15 ?_
  refine g_topi (b := x 23 (0) (1)) (by simp [xU]) ?_
  refine gp_Court_mercy F fk_X0_44 dX0_assemble_16 ?_
  refine g_aload_n F dX0_assemble_19 rfl 1 rfl ?_
  refine g_aload_n F dX0_assemble_20 rfl 0 rfl ?_
  refine g_iconst F dX0_assemble_21 (2) (by decide) ?_
  refine ga_23 F (by decide) dX0_assemble_22 ?_
  refine g_topi (b := x 23 (0) (2)) (by simp [xU]) ?_
  refine gp_Court_heals F fk_X0_47 dX0_assemble_23 ?_
  refine g_aload_n F dX0_assemble_26 rfl 1 rfl ?_
  refine g_aload_n F dX0_assemble_27 rfl 0 rfl ?_
  refine g_iconst F dX0_assemble_28 (3) (by decide) ?_
  refine ga_23 F (by decide) dX0_assemble_29 ?_
  refine g_topi (b := x 23 (0) (3)) (by simp [xU]) ?_
  refine gp_Court_king F fk_X0_50 dX0_assemble_30 ?_
  refine g_aload_n F dX0_assemble_33 rfl 1 rfl ?_
  refine g_aload_n F dX0_assemble_34 rfl 2 rfl ?_
  refine ggN_Reader_men F fk_X0_53 dX0_assemble_35 ?_
  refine g_topi (b := x 36 (0) (0)) (by simp [xU]) ?_
  refine gp_Court_size F fk_X0_55 dX0_assemble_38 ?_
  refine g_iconst F dX0_assemble_41 (0) (by decide) ?_
  refine g_istore_n F [(3, .int (J (0))), (2, .ref (ad 23 (0))), (0, .ref (ad 0 (0))), (1, .ref (ad 5 (0)))] dX0_assemble_42 rfl (by decide) rfl ?_
  have L43 : ∀ (N : Nat) (j : Int), 0 ≤ j ∧ j ≤ x 36 0 0 → (x 36 0 0 - j).toNat < N → gW Θ l D ad 5 43 [(0, .ref (ad 0 (0))), (2, .ref (ad 23 (0))), (3, .int (J (j)))] [] (asM x j) y := by
    intro N
    induction N with
    | zero => intro j hj hFu; omega
    | succ N ih43 =>
      intro j hj hFu
      refine g_iload_n F dX0_assemble_43 rfl 2 rfl ?_
      refine g_aload_n F dX0_assemble_44 rfl 0 rfl ?_
      refine gg_Court_size F fk_X0_55 dX0_assemble_45 ?_
      refine g_topi (b := x 36 0 0) (by rw [asM_k (by decide)]; rfl) ?_
      refine g_icmp_ge 95 F dX0_assemble_48 (by omega) (by omega) rfl (fun c_1 => ?_) (fun c_1 => ?_)
      · skip
        refine g_aload_n F dX0_assemble_95 rfl 0 rfl ?_
        refine gg_Court_deeds F fk_X0_27 dX0_assemble_96 ?_
        refine g_iconst F dX0_assemble_99 (0) (by decide) ?_
        refine gpN_Deeds_size F (by decide) fk_X0_62 dX0_assemble_100 ?_
        refine g_aload_n F dX0_assemble_103 rfl 0 rfl ?_
        refine g_callV 0 F (As := []) (st := []) (c_X0_actAgain l D ad (xU (asM x j) 16 (0) (0) (0)) y  (by rw [show j = x 36 0 0 by omega]; exact hZ) (by rw [xU_same]; decide) (by rw [xU_same]; intro q h0 h1; omega)) (gR_0) rfl mk_X0_63 ki_X0_actAgain kc_X0_actAgain (by decide +kernel) rfl (by decide) dX0_assemble_104 rfl (Nat.le_of_ble_eq_true rfl) (pV_k ?_)
        exact g_vreturn F hR dX0_assemble_107 (pV_i (by rw [show j = x 36 0 0 by omega]; rfl) rfl)
      · skip
        refine g_iconst F dX0_assemble_51 (4) (by decide) ?_
        refine g_iconst F dX0_assemble_52 (4) (by decide) ?_
        refine g_iload_n F dX0_assemble_53 rfl 2 rfl ?_
        refine g_imul F dX0_assemble_54 ?_
        refine g_iadd F dX0_assemble_55 ?_
        refine g_istore F [(4, .int (J ((4) + ((4) * (j))))), (0, .ref (ad 0 (0))), (2, .ref (ad 23 (0))), (3, .int (J (j)))] dX0_assemble_56 (by decide) rfl ?_
        refine g_aload_n F dX0_assemble_58 rfl 1 rfl ?_
        refine gg_Court_men F fk_X0_11 dX0_assemble_59 ?_
        refine g_iload_n F dX0_assemble_62 rfl 3 rfl ?_
        refine ga_32 F (by omega) dX0_assemble_63 ?_
        refine g_aload_n F dX0_assemble_64 rfl 2 rfl ?_
        refine g_iload F dX0_assemble_65 0 rfl ?_
        refine ga_23 F (by omega) dX0_assemble_67 ?_
        refine g_topi (b := x 23 0 ((4) + ((4) * (j)))) (by rw [asM_k (by decide), asH_k (by decide) (by decide) (by decide) (by decide) (by decide)]) ?_
        refine g_aload_n F dX0_assemble_68 rfl 2 rfl ?_
        refine g_iload F dX0_assemble_69 0 rfl ?_
        refine g_iconst F dX0_assemble_71 (1) (by decide) ?_
        refine g_iadd F dX0_assemble_72 ?_
        refine ga_23 F (by omega) dX0_assemble_73 ?_
        refine g_topi (b := x 23 0 (((4) + ((4) * (j))) + (1))) (by rw [asM_k (by decide), asH_k (by decide) (by decide) (by decide) (by decide) (by decide)]) ?_
        refine g_aload_n F dX0_assemble_74 rfl 2 rfl ?_
        refine g_iload F dX0_assemble_75 0 rfl ?_
        refine g_iconst F dX0_assemble_77 (2) (by decide) ?_
        refine g_iadd F dX0_assemble_78 ?_
        refine ga_23 F (by omega) dX0_assemble_79 ?_
        refine g_topi (b := x 23 0 (((4) + ((4) * (j))) + (2))) (by rw [asM_k (by decide), asH_k (by decide) (by decide) (by decide) (by decide) (by decide)]) ?_
        refine g_aload_n F dX0_assemble_80 rfl 2 rfl ?_
        refine g_iload F dX0_assemble_81 0 rfl ?_
        refine g_iconst F dX0_assemble_83 (3) (by decide) ?_
        refine g_iadd F dX0_assemble_84 ?_
        refine ga_23 F (by omega) dX0_assemble_85 ?_
        refine g_topi (b := x 23 0 (((4) + ((4) * (j))) + (3))) (by rw [asM_k (by decide), asH_k (by decide) (by decide) (by decide) (by decide) (by decide)]) ?_
        refine g_callV 4 F (As := [.int (J (x 23 0 ((4) + ((4) * (j))))), .int (J (x 23 0 (((4) + ((4) * (j))) + (1)))), .int (J (x 23 0 (((4) + ((4) * (j))) + (2)))), .int (J (x 23 0 (((4) + ((4) * (j))) + (3))))]) (st := []) (c_X3_become l D ad (asM x j) y (j) (x 23 0 ((4) + ((4) * (j)))) (x 23 0 (((4) + ((4) * (j))) + (1))) (x 23 0 (((4) + ((4) * (j))) + (2))) (x 23 0 (((4) + ((4) * (j))) + (3))) (by omega)) (gR_3 (by omega)) rfl mk_X0_58 ki_X3_become kc_X3_become (by decide +kernel) rfl (by decide) dX0_assemble_86 rfl (Nat.le_of_ble_eq_true rfl) (pV_k ?_)
        refine g_iinc F [(3, .int (J (j + 1))), (4, .int (J ((4) + ((4) * (j))))), (0, .ref (ad 0 (0))), (2, .ref (ad 23 (0)))] 3 rfl dX0_assemble_89 (by decide) rfl ?_
        refine g_goto F 43 dX0_assemble_92 rfl ?_
        refine g_sub [2, 3, 0] (lv' := [(0, .ref (ad 0 (0))), (2, .ref (ad 23 (0))), (3, .int (J (j + 1)))]) rfl ?_
        exact gW_eq (ih43 (j + 1) (by omega) (by omega)) rfl rfl rfl (by rw [← asM_s x (by omega)]) (rfl)
  refine g_sub [2, 1, 0] (lv' := [(0, .ref (ad 0 (0))), (2, .ref (ad 23 (0))), (3, .int (J (0)))]) rfl ?_
  exact gW_eq (L43 _ (0) (by omega) (Nat.lt_succ_self _)) rfl rfl rfl (by rw [asM_0]; rfl) (rfl)

set_option maxRecDepth 20000 in
theorem c_X0_wouldTell (l : Launch) (D : gD) (ad : gA) (x : gX) (y : gY) (i r : Int) (hi : 0 ≤ i ∧ i < 7) (hr : 0 ≤ r ∧ r < 10) (hN : NOK x) (hm : MOK x i) (hs : -1 ≤ x 17 r 0 ∧ x 17 r 0 ≤ (if r < 6 then 40 else 60) ∧ x 17 r 0 % 2 = 0) (hp : ∀ q : Int, 0 ≤ q → 2 * q < x 17 r 0 → 0 ≤ x 20 r (2 * q) ∧ x 20 r (2 * q) ≤ 30) (hx : ∀ j : Int, i32 (x 20 r j)) : gC l D ad 4 yX0_wouldTell cX0_wouldTell 4 (some .boolean) [.ref (ad 0 (0)), .ref (ad 3 (i)), .ref (ad 6 (r))] x y (pB (wtP x i r (x 17 r 0 / 2)) (x) (y)) := by
  refine g_met RX0 rfl (by decide +kernel) [(0, .ref (ad 0 (0))), (1, .ref (ad 3 (i))), (2, .ref (ad 6 (r)))] rfl (Nat.le_of_ble_eq_true rfl) (fun Θ F hR => ?_)
  have hs2 : x 17 r 0 ≤ 60 := by have := hs.2.1; split at this <;> omega
  refine g_iconst F dX0_wouldTell_0 (0) (by decide) ?_
  refine g_istore_n F [(3, .int (J (0))), (0, .ref (ad 0 (0))), (1, .ref (ad 3 (i))), (2, .ref (ad 6 (r)))] dX0_wouldTell_1 rfl (by decide) rfl ?_
  have L2 : ∀ (N : Nat) (j : Int), (0 ≤ j ∧ j ≤ x 17 r 0) ∧ j % 2 = 0 → wtP x i r (j / 2) → (x 17 r 0 - j).toNat < N → gW Θ l D ad 4 2 [(0, .ref (ad 0 (0))), (1, .ref (ad 3 (i))), (2, .ref (ad 6 (r))), (3, .int (J (j)))] [] x y := by
    intro N
    induction N with
    | zero => intro j hj ha hFu; omega
    | succ N ih2 =>
      intro j hj ha hFu
      refine g_iload_n F dX0_wouldTell_2 rfl 3 rfl ?_
      refine g_iconst F dX0_wouldTell_3 (1) (by decide) ?_
      refine g_iadd F dX0_wouldTell_4 ?_
      refine g_aload_n F dX0_wouldTell_5 rfl 2 rfl ?_
      refine ggN_Row_size F (by omega) fk_X0_155 dX0_wouldTell_6 ?_
      refine g_icmp_ge 42 F dX0_wouldTell_9 (by omega) (by omega) rfl (fun c_1 => ?_) (fun c_1 => ?_)
      · skip
        refine g_iconst F dX0_wouldTell_42 (1) (by decide) ?_
        exact g_zreturn F hR dX0_wouldTell_43 (by omega) (pB_i (by rw [show j = x 17 r 0 by omega] at ha; rw [if_pos ha]) rfl rfl)
      · skip
        have hq := hp (j / 2) (by omega) (by omega)
        rw [show 2 * (j / 2) = j by omega] at hq
        have hv := vU_r x i (x 20 r j)
        refine g_aload_n F dX0_wouldTell_12 rfl 0 rfl ?_
        refine g_aload_n F dX0_wouldTell_13 rfl 1 rfl ?_
        refine g_aload_n F dX0_wouldTell_14 rfl 2 rfl ?_
        refine ggN_Row_places F (by omega) fk_X0_158 dX0_wouldTell_15 ?_
        refine g_iload_n F dX0_wouldTell_18 rfl 3 rfl ?_
        refine ga_20 F (by omega) (by omega) dX0_wouldTell_19 ?_
        refine g_callV 2 F (As := [.ref (ad 3 (i)), .int (J (x 20 (r) (j)))]) (st := []) (c_X0_verdict l D ad x y (i) (x 20 (r) (j)) (by omega) (hN.1) (by omega) (by omega)) (gR_0) rfl mk_X0_116 ki_X0_verdict kc_X0_verdict (by decide +kernel) rfl (by decide) dX0_wouldTell_20 rfl (Nat.le_of_ble_eq_true rfl) (pI_k ?_)
        refine g_aload_n F dX0_wouldTell_23 rfl 2 rfl ?_
        refine ggN_Row_places F (by omega) fk_X0_158 dX0_wouldTell_24 ?_
        refine g_iload_n F dX0_wouldTell_27 rfl 3 rfl ?_
        refine g_iconst F dX0_wouldTell_28 (1) (by decide) ?_
        refine g_iadd F dX0_wouldTell_29 ?_
        refine ga_20 F (by omega) (by omega) dX0_wouldTell_30 ?_
        refine g_icmp_eq 36 F dX0_wouldTell_31 (by omega) (hx _) rfl (fun c_2 => ?_) (fun c_2 => ?_)
        · skip
          refine g_iinc F [(3, .int (J (j + 2))), (0, .ref (ad 0 (0))), (1, .ref (ad 3 (i))), (2, .ref (ad 6 (r)))] 3 rfl dX0_wouldTell_36 (by decide) rfl ?_
          refine g_goto F 2 dX0_wouldTell_39 rfl ?_
          refine g_sub [1, 2, 3, 0] (lv' := [(0, .ref (ad 0 (0))), (1, .ref (ad 3 (i))), (2, .ref (ad 6 (r))), (3, .int (J (j + 2)))]) rfl ?_
          exact ih2 (j + 2) (by omega) ((wt_s (by omega) (by omega)).mpr ⟨ha, by omega⟩) (by omega)
        · skip
          refine g_iconst F dX0_wouldTell_34 (0) (by decide) ?_
          exact g_zreturn F hR dX0_wouldTell_35 (by omega) (pB_i (by rw [if_neg (wt_no (j := j) (by omega) (by omega) (by omega) (by omega))]) rfl rfl)
  refine g_sub [1, 2, 3, 0] (lv' := [(0, .ref (ad 0 (0))), (1, .ref (ad 3 (i))), (2, .ref (ad 6 (r))), (3, .int (J (0)))]) rfl ?_
  exact L2 _ (0) (by omega) (rfl) (Nat.lt_succ_self _)

set_option maxRecDepth 20000 in
theorem c_X0_heatsFitting (l : Launch) (D : gD) (ad : gA) (x : gX) (y : gY) (r : Int) (hr : 0 ≤ r ∧ r < 10) (hN : NOK x) (hs : 0 ≤ x 17 r 0 ∧ x 17 r 0 ≤ (if r < 6 then 40 else 60) ∧ x 17 r 0 % 2 = 0) (hp : ∀ q : Int, 0 ≤ q → 2 * q < x 17 r 0 → (0 ≤ x 20 r (2 * q) ∧ x 20 r (2 * q) < x 10 0 0) ∧ 0 ≤ x 20 r (2 * q + 1) ∧ x 20 r (2 * q + 1) ≤ 2) : gC l D ad 5 yX0_heatsFitting cX0_heatsFitting 4 (some .int) [.ref (ad 0 (0)), .ref (ad 6 (r))] x y (pI (ftU x r) (x) (y)) := by
  refine g_met RX0 rfl (by decide +kernel) [(0, .ref (ad 0 (0))), (1, .ref (ad 6 (r)))] rfl (Nat.le_of_ble_eq_true rfl) (fun Θ F hR => ?_)
  have hs2 : x 17 r 0 ≤ 60 := by have := hs.2.1; split at this <;> omega
  refine g_ldc F ck_X0_165 dX0_heatsFitting_0 (2147483647) (by decide) ?_
  refine g_istore_n F [(2, .int (J (2147483647))), (0, .ref (ad 0 (0))), (1, .ref (ad 6 (r)))] dX0_heatsFitting_2 rfl (by decide) rfl ?_
  refine g_iconst F dX0_heatsFitting_3 (0) (by decide) ?_
  refine g_istore_n F [(3, .int (J (0))), (2, .int (J (2147483647))), (0, .ref (ad 0 (0))), (1, .ref (ad 6 (r)))] dX0_heatsFitting_4 rfl (by decide) rfl ?_
  have L5 : ∀ (N : Nat) (a : Int) (j : Int), (0 ≤ j ∧ j ≤ x 17 r 0) ∧ j % 2 = 0 → a = bitsZ (fun h => ftP x r h (j / 2)) 31 → (x 17 r 0 - j).toNat < N → gW Θ l D ad 4 5 [(0, .ref (ad 0 (0))), (1, .ref (ad 6 (r))), (2, .int (J (a))), (3, .int (J (j)))] [] x y := by
    intro N
    induction N with
    | zero => intro a j hj ha hFu; omega
    | succ N ih5 =>
      intro a j hj ha hFu
      refine g_iload_n F dX0_heatsFitting_5 rfl 3 rfl ?_
      refine g_iconst F dX0_heatsFitting_6 (1) (by decide) ?_
      refine g_iadd F dX0_heatsFitting_7 ?_
      refine g_aload_n F dX0_heatsFitting_8 rfl 1 rfl ?_
      refine ggN_Row_size F (by omega) fk_X0_155 dX0_heatsFitting_9 ?_
      refine g_icmp_ge 47 F dX0_heatsFitting_12 (by omega) (by omega) rfl (fun c_1 => ?_) (fun c_1 => ?_)
      · skip
        refine g_iload_n F dX0_heatsFitting_47 rfl 2 rfl ?_
        exact g_ireturn F hR dX0_heatsFitting_48 (pI_i (by exact ha.trans (by rw [show j = x 17 r 0 by omega])) rfl rfl)
      · skip
        have hq := hp (j / 2) (by omega) (by omega)
        rw [show 2 * (j / 2) = j by omega] at hq
        have hm := hN.2.2.2 (x 20 r j) (by omega) (by omega)
        refine g_iload_n F dX0_heatsFitting_15 rfl 2 rfl ?_
        refine g_aload_n F dX0_heatsFitting_16 rfl 0 rfl ?_
        refine g_aload_n F dX0_heatsFitting_17 rfl 0 rfl ?_
        refine gg_Court_men F fk_X0_11 dX0_heatsFitting_18 ?_
        refine g_aload_n F dX0_heatsFitting_21 rfl 1 rfl ?_
        refine ggN_Row_places F (by omega) fk_X0_158 dX0_heatsFitting_22 ?_
        refine g_iload_n F dX0_heatsFitting_25 rfl 3 rfl ?_
        refine ga_20 F (by omega) (by omega) dX0_heatsFitting_26 ?_
        refine ga_32 F (by omega) dX0_heatsFitting_27 ?_
        refine g_aload_n F dX0_heatsFitting_28 rfl 1 rfl ?_
        refine ggN_Row_places F (by omega) fk_X0_158 dX0_heatsFitting_29 ?_
        refine g_iload_n F dX0_heatsFitting_32 rfl 3 rfl ?_
        refine g_iconst F dX0_heatsFitting_33 (1) (by decide) ?_
        refine g_iadd F dX0_heatsFitting_34 ?_
        refine ga_20 F (by omega) (by omega) dX0_heatsFitting_35 ?_
        refine g_callV 2 F (As := [.ref (ad 3 ((x 20 (r) (j)))), .int (J (x 20 (r) ((j) + (1))))]) (st := [.int (J (a))]) (c_X0_heatsTelling l D ad x y ((x 20 (r) (j))) (x 20 (r) ((j) + (1))) (by omega) (hN) (hN.2.2.2 _ (by omega) (by omega)) (by omega)) (gR_0) rfl mk_X0_166 ki_X0_heatsTelling kc_X0_heatsTelling (by decide +kernel) rfl (by decide) dX0_heatsFitting_36 rfl (Nat.le_of_ble_eq_true rfl) (pI_k ?_)
        refine g_iand F dX0_heatsFitting_39 (bitsZ (fun h => ftP x r h (j / 2) ∧ vU x (x 20 r j) h = x 20 r (j + 1)) 31) (by rw [ha]; exact bits_and 31) ?_
        refine g_istore_n F [(2, .int (J (bitsZ (fun h => ftP x r h (j / 2) ∧ vU x (x 20 r j) h = x 20 r (j + 1)) 31))), (0, .ref (ad 0 (0))), (1, .ref (ad 6 (r))), (3, .int (J (j)))] dX0_heatsFitting_40 rfl (by decide) rfl ?_
        refine g_iinc F [(3, .int (J (j + 2))), (2, .int (J (bitsZ (fun h => ftP x r h (j / 2) ∧ vU x (x 20 r j) h = x 20 r (j + 1)) 31))), (0, .ref (ad 0 (0))), (1, .ref (ad 6 (r)))] 3 rfl dX0_heatsFitting_41 (by decide) rfl ?_
        refine g_goto F 5 dX0_heatsFitting_44 rfl ?_
        refine g_sub [2, 3, 1, 0] (lv' := [(0, .ref (ad 0 (0))), (1, .ref (ad 6 (r))), (2, .int (J (bitsZ (fun h => ftP x r h (j / 2) ∧ vU x (x 20 r j) h = x 20 r (j + 1)) 31))), (3, .int (J (j + 2)))]) rfl ?_
        exact ih5 (bitsZ (fun h => ftP x r h (j / 2) ∧ vU x (x 20 r j) h = x 20 r (j + 1)) 31) (j + 2) (by omega) (bitsZ_cong (fun h _ _ => (ft_s (by omega) (by omega)).symm)) (by omega)
  refine g_sub [2, 3, 1, 0] (lv' := [(0, .ref (ad 0 (0))), (1, .ref (ad 6 (r))), (2, .int (J (2147483647))), (3, .int (J (0)))]) rfl ?_
  exact L5 _ (2147483647) (0) (by omega) (ft_all) (Nat.lt_succ_self _)
