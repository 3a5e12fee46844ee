theorem YS_ys {y0 y : gY} {t n p m : Int} (h : YS y0 t n y p m) : ys y0 y := fun k j c => by rw [h.1 k (by omega)]
def FI (y : gY) (t : Int) (T : Int → Int) (n : Int) (w : gY) (i j : Int) : Prop :=
  (i = 1 ∧ YS y t n w (qP T n j) j ∧ (rdF T n = rdN T n (6 - j).toNat j ∧ rcF T n = rcN T n (6 - j).toNat j) ∧ (∀ q : Int, 0 ≤ q → q < 4 → w 50 q = rN T n q) ∧ ∀ q : Int, 0 ≤ q → q < 4 * j → w 51 q = rN T n (4 + q)) ∨
  (i = 0 ∧ (∃ m : Int, YS y t n w (rdF T n) m) ∧ 0 ≤ rdF T n)
theorem FI_w {y : gY} {t : Int} {T : Int → Int} {n : Int} {w : gY} {i j : Int} (h : FI y t T n w i j) : i = 0 ∨ i = 1 := by rcases h with h | h <;> omega
theorem FI_1 {y : gY} {t : Int} {T : Int → Int} {n : Int} {w : gY} {i j : Int} (h : FI y t T n w i j) (hi : i ≠ 0) : YS y t n w (qP T n j) j ∧ (rdF T n = rdN T n (6 - j).toNat j ∧ rcF T n = rcN T n (6 - j).toNat j) ∧ (∀ q : Int, 0 ≤ q → q < 4 → w 50 q = rN T n q) ∧ ∀ q : Int, 0 ≤ q → q < 4 * j → w 51 q = rN T n (4 + q) := by
  rcases h with h | h
  · exact h.2
  · omega
theorem FI_0 {y : gY} {t : Int} {T : Int → Int} {n : Int} {w : gY} {i j : Int} (h : FI y t T n w i j) (hi : i = 0) : (∃ m : Int, YS y t n w (rdF T n) m) ∧ 0 ≤ rdF T n := by
  rcases h with h | h
  · omega
  · exact h.2
theorem FI_t {y : gY} {t : Int} {T : Int → Int} {n : Int} {v : gY} (h : YS y t n v (irP T n (sk T n 0)) 0) (hc : ¬ irP T n (sk T n 0) = sk T n 0 + 5) : FI y t T n v (if irP T n (sk T n 0) = sk T n 0 + 5 then 1 else 0) 0 := by
  rw [if_neg hc]
  have e : rdF T n = irP T n (sk T n 0) := by unfold rdF; rw [if_neg hc]
  have a := (sk_r T n 0).1
  have b := (irP_r T n (sk T n 0)).1
  exact Or.inr ⟨rfl, ⟨0, by rw [e]; exact h⟩, by omega⟩
theorem FI_f {y : gY} {t : Int} {T : Int → Int} {n : Int} {v : gY} (h : YS y t n v (irP T n (sk T n 0)) 0 ∧ (irP T n (sk T n 0) = sk T n 0 + 5 → ∀ j : Int, 0 ≤ j → j < 4 → v 50 j = T (sk T n 0 + 1 + j) - 48)) (hc : irP T n (sk T n 0) = sk T n 0 + 5) : FI y t T n (yU v 11 0 (sk T n (irP T n (sk T n 0)))) (if irP T n (sk T n 0) = sk T n 0 + 5 then 1 else 0) 0 := by
  rw [if_pos hc]
  refine Or.inl ⟨rfl, ?_, ⟨?_, rfl⟩, fun q q0 q1 => ?_, fun q q0 q1 => by omega⟩
  · rw [hc]; exact YS_p h.1 _
  · unfold rdF; rw [if_pos hc]; rfl
  · rw [yU_k (by decide), h.2 hc q q0 q1]
    unfold rN
    rw [if_pos q1]
theorem FI_s {y : gY} {t : Int} {T : Int → Int} {n : Int} {w v : gY} {j : Int} (hj : 0 ≤ j ∧ j ≤ 6) (hq : qP T n j < n) (h : YS y t n w (qP T n j) j ∧ (rdF T n = rdN T n (6 - j).toNat j ∧ rcF T n = rcN T n (6 - j).toNat j) ∧ (∀ q : Int, 0 ≤ q → q < 4 → w 50 q = rN T n q) ∧ ∀ q : Int, 0 ≤ q → q < 4 * j → w 51 q = rN T n (4 + q))
    (hc : mnP T n (qP T n j) = qP T n j + 4 ∧ j ≠ 6) (hv : YS y t n v (qP T n j + 4) (j + 1) ∧ NM T w j (qP T n j) v 4) : FI y t T n (yU v 11 0 (sk T n (qP T n j + 4))) (if mnP T n (qP T n j) = qP T n j + 4 ∧ j ≠ 6 then 1 else 0) (j + 1) := by
  rw [if_pos hc]
  obtain ⟨h1, ⟨h2, h3⟩, h4, h5⟩ := h
  obtain ⟨g1, g2, g3, g4, g5⟩ := hv
  have e := eP_s T n hj.1
  refine Or.inl ⟨rfl, ?_, ⟨?_, ?_⟩, fun q q0 q1 => ?_, fun q q0 q1 => ?_⟩
  · have a := YS_p g1 (sk T n (qP T n j + 4))
    rw [← e] at a ⊢
    exact a
  · rw [h2, show (6 - j).toNat = (6 - (j + 1)).toNat + 1 by omega, rdN_go (by omega) hc.1]
  · rw [h3, show (6 - j).toNat = (6 - (j + 1)).toNat + 1 by omega, rcN_go (by omega) hc.1]
  · rw [yU_k (by decide), g2]; exact h4 q q0 q1
  · rw [yU_k (by decide)]
    rcases (show q < 4 * j ∨ q = 4 * j ∨ q = 4 * j + 1 ∨ q = 4 * j + 2 ∨ q = 4 * j + 3 by omega) with a | a | a | a | a
    · rw [g5 q a]; exact h5 q q0 a
    · rw [a, g3 (by decide), rN_0 T n hj.1]
    · rw [a, g4 1 (by decide) (by decide), ← Int.add_assoc, rN_k T n hj.1 (by decide)]
    · rw [a, g4 2 (by decide) (by decide), ← Int.add_assoc, rN_k T n hj.1 (by decide)]
    · rw [a, g4 3 (by decide) (by decide), ← Int.add_assoc, rN_k T n hj.1 (by decide)]
theorem FI_n {y : gY} {t : Int} {T : Int → Int} {n : Int} {w v : gY} {j : Int} (hj : 0 ≤ j ∧ j ≤ 6) (hq : qP T n j < n) (h : YS y t n w (qP T n j) j ∧ (rdF T n = rdN T n (6 - j).toNat j ∧ rcF T n = rcN T n (6 - j).toNat j) ∧ (∀ q : Int, 0 ≤ q → q < 4 → w 50 q = rN T n q) ∧ ∀ q : Int, 0 ≤ q → q < 4 * j → w 51 q = rN T n (4 + q))
    (hc : ¬ (mnP T n (qP T n j) = qP T n j + 4 ∧ j ≠ 6)) (hv : YS y t n v (if j = 6 then qP T n j else mnP T n (qP T n j)) j) : FI y t T n v (if mnP T n (qP T n j) = qP T n j + 4 ∧ j ≠ 6 then 1 else 0) j := by
  rw [if_neg hc]
  have a := qP_0 T n j
  have b := (mnP_r T n (qP T n j)).1
  have e : rdF T n = if j = 6 then qP T n j else mnP T n (qP T n j) := by
    rw [h.2.1.1]
    split
    · rename_i q
      rw [show (6 - j).toNat = 0 by omega, rdN_z (by omega)]
    · rename_i q
      rw [show (6 - j).toNat = (6 - (j + 1)).toNat + 1 by omega, rdN_no (by omega) (by omega)]
  exact Or.inr ⟨rfl, ⟨j, by rw [e]; exact hv⟩, by rw [e]; split <;> omega⟩
/-- what is known behind a reading -/
def RDY (y : gY) (T : Int → Int) (n : Int) (w : gY) : Prop := ys y w ∧ (rdF T n = -9 → w 13 0 = rcF T n ∧ (∀ q : Int, 0 ≤ q → q < 4 → w 50 q = rN T n q) ∧ ∀ q : Int, 0 ≤ q → q < 4 * rcF T n → w 51 q = rN T n (4 + q))
theorem RDY_0 {y : gY} {t : Int} {T : Int → Int} {n : Int} {w : gY} (h : (∃ m : Int, YS y t n w (rdF T n) m) ∧ 0 ≤ rdF T n) : RDY y T n w := by
  obtain ⟨⟨m, h1⟩, h2⟩ := h
  exact ⟨YS_ys h1, fun q => by omega⟩
theorem RDY_1 {y : gY} {t : Int} {T : Int → Int} {n : Int} {w : gY} {j : Int} (hq : n ≤ qP T n j) (h : YS y t n w (qP T n j) j ∧ (rdF T n = rdN T n (6 - j).toNat j ∧ rcF T n = rcN T n (6 - j).toNat j) ∧ (∀ q : Int, 0 ≤ q → q < 4 → w 50 q = rN T n q) ∧ ∀ q : Int, 0 ≤ q → q < 4 * j → w 51 q = rN T n (4 + q)) : RDY y T n w := by
  obtain ⟨h1, ⟨h2, h3⟩, h4, h5⟩ := h
  rw [rcN_end hq] at h3
  refine ⟨YS_ys h1, fun _ => ?_⟩
  rw [h3]
  exact ⟨h1.2.2.2.2, h4, h5⟩
theorem RD_1 {T : Int → Int} {n j : Int} (hq : n ≤ qP T n j) (h : rdF T n = rdN T n (6 - j).toNat j) : rdF T n = if 0 < j then -9 else qP T n j := by rw [h, rdN_end hq]
set_option maxHeartbeats 2000000 in
set_option maxRecDepth 20000 in
theorem c_X8_faultOf (l : Launch) (D : gD) (ad : gA) (x : gX) (y : gY) (z : gX) (t : Int) (ht : 0 ≤ t ∧ t < 4) (hRel : Rel z y) (hs : 0 ≤ z 17 (6 + t) 0) : gC l D ad 4 yX8_faultOf cX8_faultOf 3 (some .int) [.ref (ad 8 (0)), .int (J (t))] x y (pH (.int (J (rdF (z 20 (6 + t)) (z 17 (6 + t) 0)))) (x) (fun w => RDY y (z 20 (6 + t)) (z 17 (6 + t) 0) w)) := by
  refine g_met RX8 rfl (by decide +kernel) [(0, .ref (ad 8 (0))), (1, .int (J (t)))] rfl (Nat.le_of_ble_eq_true rfl) (fun Θ F hR => ?_)
  have hN := hRel.1.1
  have hRW := hRel.1.2.1
  have hDD := hRel.1.2.2.1
  have hST := hRel.2.1
  have hB := Rel_SB hRel
  have h10 := hN.2.1
  have h15 := hN.2.2.1
  have hw := hRW (6 + t) (by omega) (by omega)
  have hw2 : -1 ≤ z 17 (6 + t) 0 ∧ z 17 (6 + t) 0 ≤ 60 := by have := hw.1; split at this <;> omega
  have hT : ∀ j : Int, 0 ≤ j → j < z 17 (6 + t) 0 → y 48 (60 * t + j) = z 20 (6 + t) j := (hRel.2.2.2.1.2 t ht.1 ht.2).2
  have hb : ∀ j : Int, -128 ≤ z 20 (6 + t) j ∧ z 20 (6 + t) j ≤ 127 := hw.2.2 (by omega)
  have hsk1 := (sk_r (z 20 (6 + t)) (z 17 (6 + t) 0) 0).1
  have hsk2 := (sk_r (z 20 (6 + t)) (z 17 (6 + t) 0) 0).2 (by omega)
  clear hRW
  refine g_aload_n F dX8_faultOf_0 rfl 0 rfl ?_
  refine g_bipush F dX8_faultOf_1 (60) (by decide) ?_
  refine g_iload_n F dX8_faultOf_3 rfl 1 rfl ?_
  refine g_imul F dX8_faultOf_4 ?_
  refine gp_Model_from F fk_X8_106 dX8_faultOf_5 ?_
  refine g_aload_n F dX8_faultOf_8 rfl 0 rfl ?_
  refine g_iconst F dX8_faultOf_9 (0) (by decide) ?_
  refine gp_Model_place F fk_X8_109 dX8_faultOf_10 ?_
  refine g_aload_n F dX8_faultOf_13 rfl 0 rfl ?_
  refine g_aload_n F dX8_faultOf_14 rfl 0 rfl ?_
  refine gg_Model_lengths F fk_X8_31 dX8_faultOf_15 ?_
  refine g_iload_n F dX8_faultOf_18 rfl 1 rfl ?_
  refine ga_47 F (by omega) dX8_faultOf_19 ?_
  refine g_topi (b := y 47 (t)) (by simp [yU]) ?_
  refine g_topi (b := z 17 (6 + (t)) 0) ((hRel.2.2.2.1.2 _ (by omega) (by omega)).1) ?_
  refine gp_Model_end F fk_X8_112 dX8_faultOf_20 ?_
  refine g_aload_n F dX8_faultOf_23 rfl 0 rfl ?_
  refine g_iconst F dX8_faultOf_24 (0) (by decide) ?_
  refine gp_Model_readMany F fk_X8_129 dX8_faultOf_25 ?_
  refine g_aload_n F dX8_faultOf_28 rfl 0 rfl ?_
  refine g_callV 0 F (As := []) (st := []) (c_X8_readsIron l D ad x (yU (yU (yU (yU y 10 (0) ((60) * (t))) 11 (0) (0)) 12 (0) (z 17 (6 + (t)) 0)) 13 (0) (0)) (y) (t) (z 20 (6 + t)) (z 17 (6 + t) 0) (ht) (by omega) (hT) (hb) (⟨fun k c => by rw [yU_k (by omega), yU_k (by omega), yU_k (by omega), yU_k (by omega)], rfl, rfl, rfl, rfl⟩)) (gR_8) rfl mk_X8_135 ki_X8_readsIron kc_X8_readsIron (by decide +kernel) rfl (by decide) dX8_faultOf_29 rfl (Nat.le_of_ble_eq_true rfl) (pH_k (fun v_29 hG_29 => ?_))
  refine g_istore_n F [(2, .int (J (if irP (z 20 (6 + t)) (z 17 (6 + t) 0) (sk (z 20 (6 + t)) (z 17 (6 + t) 0) 0) = sk (z 20 (6 + t)) (z 17 (6 + t) 0) 0 + 5 then 1 else 0))), (0, .ref (ad 8 (0))), (1, .int (J (t)))] dX8_faultOf_32 rfl (by decide) rfl ?_
  refine g_iload_n F dX8_faultOf_33 rfl 0 rfl ?_
  refine g_ifb_eq 41 F dX8_faultOf_34 rfl (fun c_1 => ?_) (fun c_1 => ?_)
  · skip
    have hcc : ¬ irP (z 20 (6 + t)) (z 17 (6 + t) 0) (sk (z 20 (6 + t)) (z 17 (6 + t) 0) 0) = sk (z 20 (6 + t)) (z 17 (6 + t) 0) 0 + 5 := c_1
    have hi0 : (if irP (z 20 (6 + t)) (z 17 (6 + t) 0) (sk (z 20 (6 + t)) (z 17 (6 + t) 0) 0) = sk (z 20 (6 + t)) (z 17 (6 + t) 0) 0 + 5 then (1 : Int) else 0) = 0 := if_neg hcc
    have L41 : ∀ (N : Nat) (w : gY) (i : Int) (j : Int), 0 ≤ j ∧ j ≤ 6 → FI y t (z 20 (6 + t)) (z 17 (6 + t) 0) w i j → (i ≠ 0 → qP (z 20 (6 + t)) (z 17 (6 + t) 0) j ≤ z 17 (6 + t) 0) → (2 * (7 - j) + i).toNat < N → gW Θ l D ad 3 41 [(0, .ref (ad 8 (0))), (2, .int (J (i)))] [] x w := by
      intro N
      induction N with
      | zero => intro w i j hj hw1 hwq hFu; omega
      | succ N ih41 =>
        intro w i j hj hw1 hwq hFu
        have hi01 := FI_w hw1
        refine g_iload_n F dX8_faultOf_41 rfl 1 rfl ?_
        refine g_if_eq 72 F dX8_faultOf_42 (by omega) rfl (fun c_2 => ?_) (fun c_2 => ?_)
        · skip
          have hF := FI_0 hw1 c_2
          have hP : w 11 0 = rdF (z 20 (6 + t)) (z 17 (6 + t) 0) := hF.1.elim (fun m q => q.2.2.2.1)
          have h13 : w 13 0 = w 13 0 := rfl
          have hrr := rdF_r (t := z 20 (6 + t)) (n := z 17 (6 + t) 0) (by omega)
          refine g_iload_n F dX8_faultOf_72 rfl 1 rfl ?_
          refine g_if_eq 88 F dX8_faultOf_73 (by omega) rfl (fun c_3 => ?_) (fun c_3 => ?_)
          · skip
            skip
            refine g_aload_n F dX8_faultOf_88 rfl 0 rfl ?_
            refine gg_Model_place F fk_X8_109 dX8_faultOf_89 ?_
            exact g_ireturn F hR dX8_faultOf_92 (pH_z (by first | exact hP | (have e := RD_1 (T := z 20 (6 + t)) (n := z 17 (6 + t) 0) (j := j) (by omega) hS.2.1.1; rw [e]; first | (rw [if_pos (by omega)]; done) | (rw [if_neg (by omega)]; exact hP)) | (exfalso; omega)) (by first | exact RDY_0 hF | exact RDY_1 (by omega) hS) rfl)
          · skip
            refine g_aload_n F dX8_faultOf_76 rfl 0 rfl ?_
            refine gg_Model_readMany F fk_X8_129 dX8_faultOf_77 ?_
            refine g_if_le 88 F dX8_faultOf_80 (by omega) rfl (fun c_4 => ?_) (fun c_4 => ?_)
            · skip
              refine g_aload_n F dX8_faultOf_88 rfl 0 rfl ?_
              refine gg_Model_place F fk_X8_109 dX8_faultOf_89 ?_
              exact g_ireturn F hR dX8_faultOf_92 (pH_z (by first | exact hP | (have e := RD_1 (T := z 20 (6 + t)) (n := z 17 (6 + t) 0) (j := j) (by omega) hS.2.1.1; rw [e]; first | (rw [if_pos (by omega)]; done) | (rw [if_neg (by omega)]; exact hP)) | (exfalso; omega)) (by first | exact RDY_0 hF | exact RDY_1 (by omega) hS) rfl)
            · skip
              skip
              refine g_bipush F dX8_faultOf_83 (-9) (by decide) ?_
              refine g_goto F 92 dX8_faultOf_85 rfl ?_
              exact g_ireturn F hR dX8_faultOf_92 (pH_z (by first | exact hP | (have e := RD_1 (T := z 20 (6 + t)) (n := z 17 (6 + t) 0) (j := j) (by omega) hS.2.1.1; rw [e]; first | (rw [if_pos (by omega)]; done) | (rw [if_neg (by omega)]; exact hP)) | (exfalso; omega)) (by first | exact RDY_0 hF | exact RDY_1 (by omega) hS) rfl)
        · skip
          have hS := FI_1 hw1 c_2
          have hP : w 11 0 = qP (z 20 (6 + t)) (z 17 (6 + t) 0) j := hS.1.2.2.2.1
          have h12 : w 12 0 = z 17 (6 + t) 0 := hS.1.2.2.1
          have h13 : w 13 0 = j := hS.1.2.2.2.2
          have hq0 := qP_0 (z 20 (6 + t)) (z 17 (6 + t) 0) j
          have hqn := hwq c_2
          clear hwq hw1
          refine g_aload_n F dX8_faultOf_45 rfl 0 rfl ?_
          refine gg_Model_place F fk_X8_109 dX8_faultOf_46 ?_
          refine g_aload_n F dX8_faultOf_49 rfl 0 rfl ?_
          refine gg_Model_end F fk_X8_112 dX8_faultOf_50 ?_
          refine g_icmp_ge 72 F dX8_faultOf_53 (by omega) (by omega) rfl (fun c_5 => ?_) (fun c_5 => ?_)
          · skip
            refine g_iload_n F dX8_faultOf_72 rfl 1 rfl ?_
            refine g_if_eq 88 F dX8_faultOf_73 (by omega) rfl (fun c_6 => ?_) (fun c_6 => ?_)
            · skip
              skip
              refine g_aload_n F dX8_faultOf_88 rfl 0 rfl ?_
              refine gg_Model_place F fk_X8_109 dX8_faultOf_89 ?_
              exact g_ireturn F hR dX8_faultOf_92 (pH_z (by first | exact hP | (have e := RD_1 (T := z 20 (6 + t)) (n := z 17 (6 + t) 0) (j := j) (by omega) hS.2.1.1; rw [e]; first | (rw [if_pos (by omega)]; done) | (rw [if_neg (by omega)]; exact hP)) | (exfalso; omega)) (by first | exact RDY_0 hF | exact RDY_1 (by omega) hS) rfl)
            · skip
              refine g_aload_n F dX8_faultOf_76 rfl 0 rfl ?_
              refine gg_Model_readMany F fk_X8_129 dX8_faultOf_77 ?_
              refine g_if_le 88 F dX8_faultOf_80 (by omega) rfl (fun c_7 => ?_) (fun c_7 => ?_)
              · skip
                refine g_aload_n F dX8_faultOf_88 rfl 0 rfl ?_
                refine gg_Model_place F fk_X8_109 dX8_faultOf_89 ?_
                exact g_ireturn F hR dX8_faultOf_92 (pH_z (by first | exact hP | (have e := RD_1 (T := z 20 (6 + t)) (n := z 17 (6 + t) 0) (j := j) (by omega) hS.2.1.1; rw [e]; first | (rw [if_pos (by omega)]; done) | (rw [if_neg (by omega)]; exact hP)) | (exfalso; omega)) (by first | exact RDY_0 hF | exact RDY_1 (by omega) hS) rfl)
              · skip
                skip
                refine g_bipush F dX8_faultOf_83 (-9) (by decide) ?_
                refine g_goto F 92 dX8_faultOf_85 rfl ?_
                exact g_ireturn F hR dX8_faultOf_92 (pH_z (by first | exact hP | (have e := RD_1 (T := z 20 (6 + t)) (n := z 17 (6 + t) 0) (j := j) (by omega) hS.2.1.1; rw [e]; first | (rw [if_pos (by omega)]; done) | (rw [if_neg (by omega)]; exact hP)) | (exfalso; omega)) (by first | exact RDY_0 hF | exact RDY_1 (by omega) hS) rfl)
          · skip
            refine g_aload_n F dX8_faultOf_56 rfl 0 rfl ?_
            refine g_callV 0 F (As := []) (st := []) (c_X8_readsMan l D ad x w (y) (t) (z 20 (6 + t)) (z 17 (6 + t) 0) (qP (z 20 (6 + t)) (z 17 (6 + t) 0) j) (j) (ht) (by omega) (hT) (hb) (hS.1) (by omega) (by omega)) (gR_8) rfl mk_X8_139 ki_X8_readsMan kc_X8_readsMan (by decide +kernel) rfl (by decide) dX8_faultOf_57 rfl (Nat.le_of_ble_eq_true rfl) (pH_k (fun v_57 hG_57 => ?_))
            refine g_istore_n F [(2, .int (J (if mnP (z 20 (6 + t)) (z 17 (6 + t) 0) (qP (z 20 (6 + t)) (z 17 (6 + t) 0) j) = (qP (z 20 (6 + t)) (z 17 (6 + t) 0) j) + 4 ∧ (j) ≠ 6 then 1 else 0))), (0, .ref (ad 8 (0)))] dX8_faultOf_60 rfl (by decide) rfl ?_
            refine g_iload_n F dX8_faultOf_61 rfl 0 rfl ?_
            refine g_ifb_eq 41 F dX8_faultOf_62 rfl (fun c_8 => ?_) (fun c_8 => ?_)
            · skip
              have hcc : ¬ (mnP (z 20 (6 + t)) (z 17 (6 + t) 0) (qP (z 20 (6 + t)) (z 17 (6 + t) 0) j) = qP (z 20 (6 + t)) (z 17 (6 + t) 0) j + 4 ∧ j ≠ 6) := c_8
              have hi0 : (if mnP (z 20 (6 + t)) (z 17 (6 + t) 0) (qP (z 20 (6 + t)) (z 17 (6 + t) 0) j) = qP (z 20 (6 + t)) (z 17 (6 + t) 0) j + 4 ∧ j ≠ 6 then (1 : Int) else 0) = 0 := if_neg hcc
              refine g_sub [1, 0] (lv' := [(0, .ref (ad 8 (0))), (2, .int (J (if mnP (z 20 (6 + t)) (z 17 (6 + t) 0) (qP (z 20 (6 + t)) (z 17 (6 + t) 0) j) = (qP (z 20 (6 + t)) (z 17 (6 + t) 0) j) + 4 ∧ (j) ≠ 6 then 1 else 0)))]) rfl ?_
              exact ih41 (v_57) (if mnP (z 20 (6 + t)) (z 17 (6 + t) 0) (qP (z 20 (6 + t)) (z 17 (6 + t) 0) j) = (qP (z 20 (6 + t)) (z 17 (6 + t) 0) j) + 4 ∧ (j) ≠ 6 then 1 else 0) (j) (by omega) (by first | exact FI_s hj (by omega) hS hcc (hG_57.1 hcc) | exact FI_n hj (by omega) hS hcc (hG_57.2 hcc)) (fun hi => by first | exact hqe | exact absurd hi0 hi) (by omega)
            · skip
              have hcc : mnP (z 20 (6 + t)) (z 17 (6 + t) 0) (qP (z 20 (6 + t)) (z 17 (6 + t) 0) j) = qP (z 20 (6 + t)) (z 17 (6 + t) 0) j + 4 ∧ j ≠ 6 := c_8
              have hi0 : (if mnP (z 20 (6 + t)) (z 17 (6 + t) 0) (qP (z 20 (6 + t)) (z 17 (6 + t) 0) j) = qP (z 20 (6 + t)) (z 17 (6 + t) 0) j + 4 ∧ j ≠ 6 then (1 : Int) else 0) = 1 := if_pos hcc
              have hmr := (mnP_r (z 20 (6 + t)) (z 17 (6 + t) 0) (qP (z 20 (6 + t)) (z 17 (6 + t) 0) j)).2 hcc.1
              have hqe : qP (z 20 (6 + t)) (z 17 (6 + t) 0) (j + 1) ≤ z 17 (6 + t) 0 := by (have hes := eP_s (z 20 (6 + t)) (z 17 (6 + t) 0) hj.1); (have hsq := (sk_r (z 20 (6 + t)) (z 17 (6 + t) 0) (qP (z 20 (6 + t)) (z 17 (6 + t) 0) j + 4)).2 hmr); rw [← hes] at hsq; exact hsq
              refine g_aload_n F dX8_faultOf_65 rfl 1 rfl ?_
              refine g_callV 0 F (As := []) (st := []) (c_X8_skip l D ad x v_57 (y) (t) (z 20 (6 + t)) (z 17 (6 + t) 0) (qP (z 20 (6 + t)) (z 17 (6 + t) 0) j + 4) (j + 1) (ht) (by omega) (hT) (hb) ((hG_57.1 hcc).1) (by omega)) (gR_8) rfl mk_X8_123 ki_X8_skip kc_X8_skip (by decide +kernel) rfl (by decide) dX8_faultOf_66 rfl (Nat.le_of_ble_eq_true rfl) (pV_k ?_)
              refine g_goto F 41 dX8_faultOf_69 rfl ?_
              refine g_sub [1, 0] (lv' := [(0, .ref (ad 8 (0))), (2, .int (J (if mnP (z 20 (6 + t)) (z 17 (6 + t) 0) (qP (z 20 (6 + t)) (z 17 (6 + t) 0) j) = (qP (z 20 (6 + t)) (z 17 (6 + t) 0) j) + 4 ∧ (j) ≠ 6 then 1 else 0)))]) rfl ?_
              exact ih41 ((yU v_57 11 0 (sk (z 20 (6 + t)) (z 17 (6 + t) 0) (qP (z 20 (6 + t)) (z 17 (6 + t) 0) j + 4)))) (if mnP (z 20 (6 + t)) (z 17 (6 + t) 0) (qP (z 20 (6 + t)) (z 17 (6 + t) 0) j) = (qP (z 20 (6 + t)) (z 17 (6 + t) 0) j) + 4 ∧ (j) ≠ 6 then 1 else 0) (j + 1) (by omega) (by first | exact FI_s hj (by omega) hS hcc (hG_57.1 hcc) | exact FI_n hj (by omega) hS hcc (hG_57.2 hcc)) (fun hi => by first | exact hqe | exact absurd hi0 hi) (by omega)
    refine g_sub [1, 0] (lv' := [(0, .ref (ad 8 (0))), (2, .int (J (if irP (z 20 (6 + t)) (z 17 (6 + t) 0) (sk (z 20 (6 + t)) (z 17 (6 + t) 0) 0) = sk (z 20 (6 + t)) (z 17 (6 + t) 0) 0 + 5 then 1 else 0)))]) rfl ?_
    exact L41 _ (v_29) (if irP (z 20 (6 + t)) (z 17 (6 + t) 0) (sk (z 20 (6 + t)) (z 17 (6 + t) 0) 0) = sk (z 20 (6 + t)) (z 17 (6 + t) 0) 0 + 5 then 1 else 0) (0) (by omega) (by first | exact FI_t hG_29.1 hcc | exact FI_f hG_29 hcc) (fun hi => by first | exact hqe | exact absurd hi0 hi) (Nat.lt_succ_self _)
  · skip
    have hcc : irP (z 20 (6 + t)) (z 17 (6 + t) 0) (sk (z 20 (6 + t)) (z 17 (6 + t) 0) 0) = sk (z 20 (6 + t)) (z 17 (6 + t) 0) 0 + 5 := c_1
    have hi0 : (if irP (z 20 (6 + t)) (z 17 (6 + t) 0) (sk (z 20 (6 + t)) (z 17 (6 + t) 0) 0) = sk (z 20 (6 + t)) (z 17 (6 + t) 0) 0 + 5 then (1 : Int) else 0) = 1 := if_pos hcc
    have hir := (irP_r (z 20 (6 + t)) (z 17 (6 + t) 0) (sk (z 20 (6 + t)) (z 17 (6 + t) 0) 0)).2 hcc
    have hqe : qP (z 20 (6 + t)) (z 17 (6 + t) 0) 0 ≤ z 17 (6 + t) 0 := (sk_r (z 20 (6 + t)) (z 17 (6 + t) 0) (sk (z 20 (6 + t)) (z 17 (6 + t) 0) 0 + 5)).2 hir
    refine g_aload_n F dX8_faultOf_37 rfl 1 rfl ?_
    refine g_callV 0 F (As := []) (st := []) (c_X8_skip l D ad x v_29 (y) (t) (z 20 (6 + t)) (z 17 (6 + t) 0) (irP (z 20 (6 + t)) (z 17 (6 + t) 0) (sk (z 20 (6 + t)) (z 17 (6 + t) 0) 0)) (0) (ht) (by omega) (hT) (hb) (hG_29.1) (by rw [hcc]; omega)) (gR_8) rfl mk_X8_123 ki_X8_skip kc_X8_skip (by decide +kernel) rfl (by decide) dX8_faultOf_38 rfl (Nat.le_of_ble_eq_true rfl) (pV_k ?_)
    have L41 : ∀ (N : Nat) (w : gY) (i : Int) (j : Int), 0 ≤ j ∧ j ≤ 6 → FI y t (z 20 (6 + t)) (z 17 (6 + t) 0) w i j → (i ≠ 0 → qP (z 20 (6 + t)) (z 17 (6 + t) 0) j ≤ z 17 (6 + t) 0) → (2 * (7 - j) + i).toNat < N → gW Θ l D ad 3 41 [(0, .ref (ad 8 (0))), (2, .int (J (i)))] [] x w := by
      intro N
      induction N with
      | zero => intro w i j hj hw1 hwq hFu; omega
      | succ N ih41 =>
        intro w i j hj hw1 hwq hFu
        have hi01 := FI_w hw1
        refine g_iload_n F dX8_faultOf_41 rfl 1 rfl ?_
        refine g_if_eq 72 F dX8_faultOf_42 (by omega) rfl (fun c_9 => ?_) (fun c_9 => ?_)
        · skip
          have hF := FI_0 hw1 c_9
          have hP : w 11 0 = rdF (z 20 (6 + t)) (z 17 (6 + t) 0) := hF.1.elim (fun m q => q.2.2.2.1)
          have h13 : w 13 0 = w 13 0 := rfl
          have hrr := rdF_r (t := z 20 (6 + t)) (n := z 17 (6 + t) 0) (by omega)
          refine g_iload_n F dX8_faultOf_72 rfl 1 rfl ?_
          refine g_if_eq 88 F dX8_faultOf_73 (by omega) rfl (fun c_10 => ?_) (fun c_10 => ?_)
          · skip
            skip
            refine g_aload_n F dX8_faultOf_88 rfl 0 rfl ?_
            refine gg_Model_place F fk_X8_109 dX8_faultOf_89 ?_
            exact g_ireturn F hR dX8_faultOf_92 (pH_z (by first | exact hP | (have e := RD_1 (T := z 20 (6 + t)) (n := z 17 (6 + t) 0) (j := j) (by omega) hS.2.1.1; rw [e]; first | (rw [if_pos (by omega)]; done) | (rw [if_neg (by omega)]; exact hP)) | (exfalso; omega)) (by first | exact RDY_0 hF | exact RDY_1 (by omega) hS) rfl)
          · skip
            refine g_aload_n F dX8_faultOf_76 rfl 0 rfl ?_
            refine gg_Model_readMany F fk_X8_129 dX8_faultOf_77 ?_
            refine g_if_le 88 F dX8_faultOf_80 (by omega) rfl (fun c_11 => ?_) (fun c_11 => ?_)
            · skip
              refine g_aload_n F dX8_faultOf_88 rfl 0 rfl ?_
              refine gg_Model_place F fk_X8_109 dX8_faultOf_89 ?_
              exact g_ireturn F hR dX8_faultOf_92 (pH_z (by first | exact hP | (have e := RD_1 (T := z 20 (6 + t)) (n := z 17 (6 + t) 0) (j := j) (by omega) hS.2.1.1; rw [e]; first | (rw [if_pos (by omega)]; done) | (rw [if_neg (by omega)]; exact hP)) | (exfalso; omega)) (by first | exact RDY_0 hF | exact RDY_1 (by omega) hS) rfl)
            · skip
              skip
              refine g_bipush F dX8_faultOf_83 (-9) (by decide) ?_
              refine g_goto F 92 dX8_faultOf_85 rfl ?_
              exact g_ireturn F hR dX8_faultOf_92 (pH_z (by first | exact hP | (have e := RD_1 (T := z 20 (6 + t)) (n := z 17 (6 + t) 0) (j := j) (by omega) hS.2.1.1; rw [e]; first | (rw [if_pos (by omega)]; done) | (rw [if_neg (by omega)]; exact hP)) | (exfalso; omega)) (by first | exact RDY_0 hF | exact RDY_1 (by omega) hS) rfl)
        · skip
          have hS := FI_1 hw1 c_9
          have hP : w 11 0 = qP (z 20 (6 + t)) (z 17 (6 + t) 0) j := hS.1.2.2.2.1
          have h12 : w 12 0 = z 17 (6 + t) 0 := hS.1.2.2.1
          have h13 : w 13 0 = j := hS.1.2.2.2.2
          have hq0 := qP_0 (z 20 (6 + t)) (z 17 (6 + t) 0) j
          have hqn := hwq c_9
          clear hwq hw1
          refine g_aload_n F dX8_faultOf_45 rfl 0 rfl ?_
          refine gg_Model_place F fk_X8_109 dX8_faultOf_46 ?_
          refine g_aload_n F dX8_faultOf_49 rfl 0 rfl ?_
          refine gg_Model_end F fk_X8_112 dX8_faultOf_50 ?_
          refine g_icmp_ge 72 F dX8_faultOf_53 (by omega) (by omega) rfl (fun c_12 => ?_) (fun c_12 => ?_)
          · skip
            refine g_iload_n F dX8_faultOf_72 rfl 1 rfl ?_
            refine g_if_eq 88 F dX8_faultOf_73 (by omega) rfl (fun c_13 => ?_) (fun c_13 => ?_)
            · skip
              skip
              refine g_aload_n F dX8_faultOf_88 rfl 0 rfl ?_
              refine gg_Model_place F fk_X8_109 dX8_faultOf_89 ?_
              exact g_ireturn F hR dX8_faultOf_92 (pH_z (by first | exact hP | (have e := RD_1 (T := z 20 (6 + t)) (n := z 17 (6 + t) 0) (j := j) (by omega) hS.2.1.1; rw [e]; first | (rw [if_pos (by omega)]; done) | (rw [if_neg (by omega)]; exact hP)) | (exfalso; omega)) (by first | exact RDY_0 hF | exact RDY_1 (by omega) hS) rfl)
            · skip
              refine g_aload_n F dX8_faultOf_76 rfl 0 rfl ?_
              refine gg_Model_readMany F fk_X8_129 dX8_faultOf_77 ?_
              refine g_if_le 88 F dX8_faultOf_80 (by omega) rfl (fun c_14 => ?_) (fun c_14 => ?_)
              · skip
                refine g_aload_n F dX8_faultOf_88 rfl 0 rfl ?_
                refine gg_Model_place F fk_X8_109 dX8_faultOf_89 ?_
                exact g_ireturn F hR dX8_faultOf_92 (pH_z (by first | exact hP | (have e := RD_1 (T := z 20 (6 + t)) (n := z 17 (6 + t) 0) (j := j) (by omega) hS.2.1.1; rw [e]; first | (rw [if_pos (by omega)]; done) | (rw [if_neg (by omega)]; exact hP)) | (exfalso; omega)) (by first | exact RDY_0 hF | exact RDY_1 (by omega) hS) rfl)
              · skip
                skip
                refine g_bipush F dX8_faultOf_83 (-9) (by decide) ?_
                refine g_goto F 92 dX8_faultOf_85 rfl ?_
                exact g_ireturn F hR dX8_faultOf_92 (pH_z (by first | exact hP | (have e := RD_1 (T := z 20 (6 + t)) (n := z 17 (6 + t) 0) (j := j) (by omega) hS.2.1.1; rw [e]; first | (rw [if_pos (by omega)]; done) | (rw [if_neg (by omega)]; exact hP)) | (exfalso; omega)) (by first | exact RDY_0 hF | exact RDY_1 (by omega) hS) rfl)
          · skip
            refine g_aload_n F dX8_faultOf_56 rfl 0 rfl ?_
            refine g_callV 0 F (As := []) (st := []) (c_X8_readsMan l D ad x w (y) (t) (z 20 (6 + t)) (z 17 (6 + t) 0) (qP (z 20 (6 + t)) (z 17 (6 + t) 0) j) (j) (ht) (by omega) (hT) (hb) (hS.1) (by omega) (by omega)) (gR_8) rfl mk_X8_139 ki_X8_readsMan kc_X8_readsMan (by decide +kernel) rfl (by decide) dX8_faultOf_57 rfl (Nat.le_of_ble_eq_true rfl) (pH_k (fun v_57 hG_57 => ?_))
            refine g_istore_n F [(2, .int (J (if mnP (z 20 (6 + t)) (z 17 (6 + t) 0) (qP (z 20 (6 + t)) (z 17 (6 + t) 0) j) = (qP (z 20 (6 + t)) (z 17 (6 + t) 0) j) + 4 ∧ (j) ≠ 6 then 1 else 0))), (0, .ref (ad 8 (0)))] dX8_faultOf_60 rfl (by decide) rfl ?_
            refine g_iload_n F dX8_faultOf_61 rfl 0 rfl ?_
            refine g_ifb_eq 41 F dX8_faultOf_62 rfl (fun c_15 => ?_) (fun c_15 => ?_)
            · skip
              have hcc : ¬ (mnP (z 20 (6 + t)) (z 17 (6 + t) 0) (qP (z 20 (6 + t)) (z 17 (6 + t) 0) j) = qP (z 20 (6 + t)) (z 17 (6 + t) 0) j + 4 ∧ j ≠ 6) := c_15
              have hi0 : (if mnP (z 20 (6 + t)) (z 17 (6 + t) 0) (qP (z 20 (6 + t)) (z 17 (6 + t) 0) j) = qP (z 20 (6 + t)) (z 17 (6 + t) 0) j + 4 ∧ j ≠ 6 then (1 : Int) else 0) = 0 := if_neg hcc
              refine g_sub [1, 0] (lv' := [(0, .ref (ad 8 (0))), (2, .int (J (if mnP (z 20 (6 + t)) (z 17 (6 + t) 0) (qP (z 20 (6 + t)) (z 17 (6 + t) 0) j) = (qP (z 20 (6 + t)) (z 17 (6 + t) 0) j) + 4 ∧ (j) ≠ 6 then 1 else 0)))]) rfl ?_
              exact ih41 (v_57) (if mnP (z 20 (6 + t)) (z 17 (6 + t) 0) (qP (z 20 (6 + t)) (z 17 (6 + t) 0) j) = (qP (z 20 (6 + t)) (z 17 (6 + t) 0) j) + 4 ∧ (j) ≠ 6 then 1 else 0) (j) (by omega) (by first | exact FI_s hj (by omega) hS hcc (hG_57.1 hcc) | exact FI_n hj (by omega) hS hcc (hG_57.2 hcc)) (fun hi => by first | exact hqe | exact absurd hi0 hi) (by omega)
            · skip
              have hcc : mnP (z 20 (6 + t)) (z 17 (6 + t) 0) (qP (z 20 (6 + t)) (z 17 (6 + t) 0) j) = qP (z 20 (6 + t)) (z 17 (6 + t) 0) j + 4 ∧ j ≠ 6 := c_15
              have hi0 : (if mnP (z 20 (6 + t)) (z 17 (6 + t) 0) (qP (z 20 (6 + t)) (z 17 (6 + t) 0) j) = qP (z 20 (6 + t)) (z 17 (6 + t) 0) j + 4 ∧ j ≠ 6 then (1 : Int) else 0) = 1 := if_pos hcc
              have hmr := (mnP_r (z 20 (6 + t)) (z 17 (6 + t) 0) (qP (z 20 (6 + t)) (z 17 (6 + t) 0) j)).2 hcc.1
              have hqe : qP (z 20 (6 + t)) (z 17 (6 + t) 0) (j + 1) ≤ z 17 (6 + t) 0 := by (have hes := eP_s (z 20 (6 + t)) (z 17 (6 + t) 0) hj.1); (have hsq := (sk_r (z 20 (6 + t)) (z 17 (6 + t) 0) (qP (z 20 (6 + t)) (z 17 (6 + t) 0) j + 4)).2 hmr); rw [← hes] at hsq; exact hsq
              refine g_aload_n F dX8_faultOf_65 rfl 1 rfl ?_
              refine g_callV 0 F (As := []) (st := []) (c_X8_skip l D ad x v_57 (y) (t) (z 20 (6 + t)) (z 17 (6 + t) 0) (qP (z 20 (6 + t)) (z 17 (6 + t) 0) j + 4) (j + 1) (ht) (by omega) (hT) (hb) ((hG_57.1 hcc).1) (by omega)) (gR_8) rfl mk_X8_123 ki_X8_skip kc_X8_skip (by decide +kernel) rfl (by decide) dX8_faultOf_66 rfl (Nat.le_of_ble_eq_true rfl) (pV_k ?_)
              refine g_goto F 41 dX8_faultOf_69 rfl ?_
              refine g_sub [1, 0] (lv' := [(0, .ref (ad 8 (0))), (2, .int (J (if mnP (z 20 (6 + t)) (z 17 (6 + t) 0) (qP (z 20 (6 + t)) (z 17 (6 + t) 0) j) = (qP (z 20 (6 + t)) (z 17 (6 + t) 0) j) + 4 ∧ (j) ≠ 6 then 1 else 0)))]) rfl ?_
              exact ih41 ((yU v_57 11 0 (sk (z 20 (6 + t)) (z 17 (6 + t) 0) (qP (z 20 (6 + t)) (z 17 (6 + t) 0) j + 4)))) (if mnP (z 20 (6 + t)) (z 17 (6 + t) 0) (qP (z 20 (6 + t)) (z 17 (6 + t) 0) j) = (qP (z 20 (6 + t)) (z 17 (6 + t) 0) j) + 4 ∧ (j) ≠ 6 then 1 else 0) (j + 1) (by omega) (by first | exact FI_s hj (by omega) hS hcc (hG_57.1 hcc) | exact FI_n hj (by omega) hS hcc (hG_57.2 hcc)) (fun hi => by first | exact hqe | exact absurd hi0 hi) (by omega)
    refine g_sub [1, 0] (lv' := [(0, .ref (ad 8 (0))), (2, .int (J (if irP (z 20 (6 + t)) (z 17 (6 + t) 0) (sk (z 20 (6 + t)) (z 17 (6 + t) 0) 0) = sk (z 20 (6 + t)) (z 17 (6 + t) 0) 0 + 5 then 1 else 0)))]) rfl ?_
    exact L41 _ ((yU v_29 11 0 (sk (z 20 (6 + t)) (z 17 (6 + t) 0) (irP (z 20 (6 + t)) (z 17 (6 + t) 0) (sk (z 20 (6 + t)) (z 17 (6 + t) 0) 0))))) (if irP (z 20 (6 + t)) (z 17 (6 + t) 0) (sk (z 20 (6 + t)) (z 17 (6 + t) 0) 0) = sk (z 20 (6 + t)) (z 17 (6 + t) 0) 0 + 5 then 1 else 0) (0) (by omega) (by first | exact FI_t hG_29.1 hcc | exact FI_f hG_29 hcc) (fun hi => by first | exact hqe | exact absurd hi0 hi) (Nat.lt_succ_self _)
