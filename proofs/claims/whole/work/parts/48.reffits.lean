theorem paP_s {x : gX} {r b j : Int} (h0 : 0 ≤ j) (h2 : j % 2 = 0) : paP x r b (j + 2) ↔ paP x r b j ∧ (0 ≤ x 20 r j ∧ x 20 r j < b) ∧ 0 ≤ x 20 r (j + 1) ∧ x 20 r (j + 1) < 3 := by
  have a := mm_s (f := fun j => 0 ≤ x 20 r j ∧ x 20 r j < (if j % 2 = 0 then b else 3)) (n := j) h0
  have c := mm_s (f := fun j => 0 ≤ x 20 r j ∧ x 20 r j < (if j % 2 = 0 then b else 3)) (n := j + 1) (by omega)
  rw [show j + 2 = j + 1 + 1 by omega]
  refine c.trans ((and_congr_left' a).trans ?_)
  show (_ ∧ (0 ≤ x 20 r j ∧ x 20 r j < (if j % 2 = 0 then b else 3))) ∧ (0 ≤ x 20 r (j + 1) ∧ x 20 r (j + 1) < (if (j + 1) % 2 = 0 then b else 3)) ↔ _
  rw [if_pos h2, if_neg (by omega), and_assoc]
theorem paP_no {x : gX} {r b j n : Int} (h0 : 0 ≤ j) (h2 : j % 2 = 0) (hn : j + 1 < n) (h : ¬ ((0 ≤ x 20 r j ∧ x 20 r j < b) ∧ 0 ≤ x 20 r (j + 1) ∧ x 20 r (j + 1) < 3)) : ¬ paP x r b n := fun q => by
  have a := paP_at (by omega) q h0 (by omega : j < n)
  have c := paP_at (by omega) q (by omega : 0 ≤ j + 1) hn
  rw [if_pos h2] at a
  rw [if_neg (by omega)] at c
  exact h ⟨a, c⟩
def nRf (z : gX) (r b : Int) : Int × gX := if pfU z r b = 0 then (0, z) else (-3, fnd z (pfU z r b))
theorem nRf_0 {z : gX} {r b : Int} (h : (nRf z r b).1 = 0) : pfU z r b = 0 ∧ (nRf z r b).2 = z := by
  unfold nRf at h ⊢
  by_cases q : pfU z r b = 0
  · rw [if_pos q]; exact ⟨q, rfl⟩
  · rw [if_neg q] at h; exact absurd (show (-3 : Int) = 0 from h) (by decide)
theorem nRf_r (z : gX) (r b : Int) : -3 ≤ (nRf z r b).1 ∧ (nRf z r b).1 ≤ 0 := by unfold nRf; split <;> simp
theorem nRf_1 {z : gX} {r b : Int} (h : z 17 r 0 = -1) : nRf z r b = (-3, fnd z 1) := by
  have e : pfU z r b = 1 := by unfold pfU; rw [if_pos h]
  unfold nRf; rw [e, if_neg (by decide)]
theorem nRf_5 {z : gX} {r b : Int} (h : z 17 r 0 ≠ -1) (h2 : z 17 r 0 % 2 ≠ 0) : nRf z r b = (-3, fnd z 5) := by
  have e : pfU z r b = 5 := by unfold pfU; rw [if_neg h, if_pos h2]
  unfold nRf; rw [e, if_neg (by decide)]
theorem nRf_y {z : gX} {r b : Int} (h : z 17 r 0 ≠ -1) (h2 : z 17 r 0 % 2 = 0) (h3 : paP z r b (z 17 r 0)) : nRf z r b = (0, z) := by
  have e : pfU z r b = 0 := by unfold pfU; rw [if_neg h, if_neg (fun q => q h2), if_pos h3]
  unfold nRf; rw [e, if_pos rfl]
theorem nRf_3 {z : gX} {r b : Int} (h : z 17 r 0 ≠ -1) (h2 : z 17 r 0 % 2 = 0) (h3 : ¬ paP z r b (z 17 r 0)) : nRf z r b = (-3, fnd z 3) := by
  have e : pfU z r b = 3 := by unfold pfU; rw [if_neg h, if_neg (fun q => q h2), if_neg h3]
  unfold nRf; rw [e, if_neg (by decide)]
theorem ft_no {x : gX} {r h j n : Int} (h0 : 0 ≤ j) (h2 : j % 2 = 0) (hn : j + 1 < n) (hv : vU x (x 20 r j) h ≠ x 20 r (j + 1)) : ¬ ftP x r h (n / 2) := by
  intro q
  have q2 := (mmZ_iff (P := fun q => vU x (x 20 r (2 * q)) h = x 20 r (2 * q + 1)) (by omega)).mp q (j / 2) (by omega) (by omega)
  rw [show 2 * (j / 2) = j by omega] at q2
  exact hv q2
theorem wk_s {x : gX} {i k d r j : Int} (h0 : 0 ≤ j) (h2 : j % 2 = 0) : sumZ (fun q => if vKH x i k d (x 20 r (2 * q)) = x 20 r (2 * q + 1) then 0 else 1) ((j + 2) / 2) = 0 ↔ sumZ (fun q => if vKH x i k d (x 20 r (2 * q)) = x 20 r (2 * q + 1) then 0 else 1) (j / 2) = 0 ∧ vKH x i k d (x 20 r j) = x 20 r (j + 1) := by
  have e2 : 2 * (j / 2) = j := by omega
  have := mm_s (f := fun q => vKH x i k d (x 20 r (2 * q)) = x 20 r (2 * q + 1)) (n := j / 2) (by omega)
  rw [show (j + 2) / 2 = j / 2 + 1 by omega]
  rw [e2] at this
  exact this
theorem wk_no {x : gX} {i k d r j : Int} (h0 : 0 ≤ j) (h2 : j % 2 = 0) (hn : j + 1 < x 17 r 0) (hv : vKH x i k d (x 20 r j) ≠ x 20 r (j + 1)) : ¬ wkP x i k d r := by
  intro q
  have q2 := (mmZ_iff (P := fun q => vKH x i k d (x 20 r (2 * q)) = x 20 r (2 * q + 1)) (by omega)).mp q (j / 2) (by omega) (by omega)
  rw [show 2 * (j / 2) = j by omega] at q2
  exact hv q2
theorem vKH_r (x : gX) (i k d h : Int) : 0 ≤ vKH x i k d h ∧ vKH x i k d h ≤ 2 := by unfold vKH; (repeat' split) <;> omega
/-- parts of heats by what one tells -/
abbrev gc (z : gX) (i s v j : Int) : Int := sumZ (fun h => if s / p2 h % 2 = 1 ∧ vU z i h = v then 1 else 0) j
theorem gc_s (z : gX) (i s v : Int) {j : Int} (h : 0 ≤ j) : gc z i s v (j + 1) = gc z i s v j + if s / p2 j % 2 = 1 ∧ vU z i j = v then 1 else 0 := sumZ_s _ h
def GPI (z : gX) (i s : Int) (y w : gY) (m j : Int) : Prop := ys y w ∧ (∀ v : Int, 0 ≤ v → v < 3 → w 53 v = gc z i s v j) ∧ m = max (max (max 0 (gc z i s 0 j)) (gc z i s 1 j)) (gc z i s 2 j)
theorem GPI_n {z : gX} {i s : Int} {y w : gY} {m j : Int} (h : GPI z i s y w m j) (h0 : 0 ≤ j) (hs : ¬ s / p2 j % 2 = 1) : GPI z i s y w m (j + 1) := by
  have e : ∀ v : Int, gc z i s v (j + 1) = gc z i s v j := fun v => by rw [gc_s _ _ _ _ h0, if_neg (fun q => hs q.1), Int.add_zero]
  unfold GPI
  rw [e 0, e 1, e 2]
  exact ⟨h.1, fun v v0 v1 => by rw [e v]; exact h.2.1 v v0 v1, h.2.2⟩
theorem GPI_y {z : gX} {i s : Int} {y w : gY} {m j m' : Int} (h : GPI z i s y w m j) (h0 : 0 ≤ j) (hs : s / p2 j % 2 = 1) (hm : m' = max m (w 53 (vU z i j) + 1)) : GPI z i s y (yU w 53 (vU z i j) (w 53 (vU z i j) + 1)) m' (j + 1) := by
  have hv := vU_r z i j
  obtain ⟨h1, h2, h3⟩ := h
  have e : ∀ v : Int, gc z i s v (j + 1) = gc z i s v j + if vU z i j = v then 1 else 0 := fun v => by
    rw [gc_s _ _ _ _ h0]
    by_cases q : vU z i j = v
    · rw [if_pos ⟨hs, q⟩, if_pos q]
    · rw [if_neg (fun c => q c.2), if_neg q]
  refine ⟨ys_tr h1 (fun k q c => by rw [yU_k (by omega)]), fun v v0 v1 => ?_, ?_⟩
  · rw [yU_at, e v]
    by_cases q : v = vU z i j
    · rw [if_pos q, if_pos q.symm, ← q, h2 v v0 v1]
    · rw [if_neg q, if_neg (fun c => q c.symm), Int.add_zero]; exact h2 v v0 v1
  · have e9 := h2 (vU z i j) hv.1 (by omega)
    rw [hm, e9, e 0, e 1, e 2, h3]
    rcases (show vU z i j = 0 ∨ vU z i j = 1 ∨ vU z i j = 2 by omega) with q | q | q
    · rw [q, if_pos rfl, if_neg (by decide), if_neg (by decide)]; omega
    · rw [q, if_neg (by decide), if_pos rfl, if_neg (by decide)]; omega
    · rw [q, if_neg (by decide), if_neg (by decide), if_pos rfl]; omega
theorem GPI_r {z : gX} {i s : Int} {y w : gY} {m j : Int} (h : GPI z i s y w m j) (h0 : 0 ≤ j) : (0 ≤ m ∧ m ≤ j) ∧ ∀ v : Int, 0 ≤ v → v < 3 → 0 ≤ w 53 v ∧ w 53 v ≤ j := by
  have q : ∀ v : Int, 0 ≤ gc z i s v j ∧ gc z i s v j ≤ j := fun v => cntZ_r h0
  have q0 := q 0
  have q1 := q 1
  have q2 := q 2
  refine ⟨by rw [h.2.2]; omega, fun v v0 v1 => by rw [h.2.1 v v0 v1]; exact q v⟩
set_option maxRecDepth 20000 in
theorem c_X8_noPairs (l : Launch) (D : gD) (ad : gA) (x : gX) (y : gY) (z : gX) (r b : Int) (hr : 0 ≤ r ∧ r < 6) (hb : 0 ≤ b ∧ b ≤ 100) (hRel : Rel z y) : gC l D ad 1 yX8_noPairs cX8_noPairs 5 (some .int) [.ref (ad 8 (0)), .int (J (r)), .int (J (b))] x y (pH (.int (J ((nRf z r (b + 1)).1))) (x) (fun w9 => Rel (nRf z r (b + 1)).2 w9)) := by
  refine g_met RX8 rfl (by decide +kernel) [(0, .ref (ad 8 (0))), (1, .int (J (r))), (2, .int (J (b)))] rfl (Nat.le_of_ble_eq_true rfl) (fun Θ F hR => ?_)
  have hN := hRel.1.1
  have hRW := hRel.1.2.1
  have hDD := hRel.1.2.2.1
  have hST := hRel.2.1
  have hB := Rel_SB hRel
  have h10 := hN.2.1
  have h15 := hN.2.2.1
  have hw := hRW (r) (by omega) (by omega)
  have hw2 : -1 ≤ z 17 (r) 0 ∧ z 17 (r) 0 ≤ 60 := by have := hw.1; split at this <;> omega
  have hi20 := hw.2.1
  clear hRW
  refine g_aload_n F dX8_noPairs_0 rfl 0 rfl ?_
  refine gg_Model_sizes F fk_X8_25 dX8_noPairs_1 ?_
  refine g_iload_n F dX8_noPairs_4 rfl 1 rfl ?_
  refine ga_45 F (by omega) dX8_noPairs_5 ?_
  refine g_topi (b := z 17 (r) 0) ((hRel.2.2.2.1.1 _ (by omega) (by omega)).1) ?_
  refine g_if_ge 15 F dX8_noPairs_6 (by omega) rfl (fun c_1 => ?_) (fun c_1 => ?_)
  · skip
    refine g_aload_n F dX8_noPairs_15 rfl 0 rfl ?_
    refine gg_Model_sizes F fk_X8_25 dX8_noPairs_16 ?_
    refine g_iload_n F dX8_noPairs_19 rfl 1 rfl ?_
    refine ga_45 F (by omega) dX8_noPairs_20 ?_
    refine g_topi (b := z 17 (r) 0) ((hRel.2.2.2.1.1 _ (by omega) (by omega)).1) ?_
    refine g_iconst F dX8_noPairs_21 (2) (by decide) ?_
    refine g_iremp F dX8_noPairs_22 (by omega) (by decide) (by omega) (by decide) ?_
    refine g_if_eq 32 F dX8_noPairs_23 (by omega) rfl (fun c_2 => ?_) (fun c_2 => ?_)
    · skip
      refine g_iconst F dX8_noPairs_32 (1) (by decide) ?_
      refine g_istore_n F [(3, .int (J (1))), (0, .ref (ad 8 (0))), (1, .int (J (r))), (2, .int (J (b)))] dX8_noPairs_33 rfl (by decide) rfl ?_
      refine g_bipush F dX8_noPairs_34 (40) (by decide) ?_
      refine g_iload_n F dX8_noPairs_36 rfl 2 rfl ?_
      refine g_imul F dX8_noPairs_37 ?_
      refine g_istore F [(4, .int (J ((40) * (r)))), (3, .int (J (1))), (0, .ref (ad 8 (0))), (1, .int (J (r))), (2, .int (J (b)))] dX8_noPairs_38 (by decide) rfl ?_
      have L40 : ∀ (N : Nat) (a : Int) (k : Int), (40 * r ≤ k ∧ k ≤ 40 * r + z 17 r 0) ∧ (k - 40 * r) % 2 = 0 → a = 0 ∨ a = 1 → (a = 1 → paP z r (b + 1) (k - 40 * r)) → (a = 0 → ¬ paP z r (b + 1) (z 17 r 0)) → (40 * r + z 17 r 0 - k).toNat < N → gW Θ l D ad 5 40 [(0, .ref (ad 8 (0))), (1, .int (J (r))), (2, .int (J (b))), (3, .int (J (a))), (4, .int (J (k)))] [] x y := by
        intro N
        induction N with
        | zero => intro a k hk ha01 ha1 ha0 hFu; omega
        | succ N ih40 =>
          intro a k hk ha01 ha1 ha0 hFu
          refine g_iload F dX8_noPairs_40 4 rfl ?_
          refine g_bipush F dX8_noPairs_42 (40) (by decide) ?_
          refine g_iload_n F dX8_noPairs_44 rfl 1 rfl ?_
          refine g_imul F dX8_noPairs_45 ?_
          refine g_aload_n F dX8_noPairs_46 rfl 0 rfl ?_
          refine gg_Model_sizes F fk_X8_25 dX8_noPairs_47 ?_
          refine g_iload_n F dX8_noPairs_50 rfl 1 rfl ?_
          refine ga_45 F (by omega) dX8_noPairs_51 ?_
          refine g_topi (b := z 17 (r) 0) ((hRel.2.2.2.1.1 _ (by omega) (by omega)).1) ?_
          refine g_iadd F dX8_noPairs_52 ?_
          refine g_icmp_ge 109 F dX8_noPairs_53 (by omega) (by omega) rfl (fun c_3 => ?_) (fun c_3 => ?_)
          · skip
            refine g_iload_n F dX8_noPairs_109 rfl 3 rfl ?_
            refine g_if_eq 117 F dX8_noPairs_110 (by omega) rfl (fun c_4 => ?_) (fun c_4 => ?_)
            · skip
              have hNot := ha0 (by omega)
              refine g_aload_n F dX8_noPairs_117 rfl 0 rfl ?_
              refine g_iconst F dX8_noPairs_118 (3) (by decide) ?_
              refine g_callV 1 F (As := [.int (J (3))]) (st := []) (c_X8_find l D ad x y (3) (by omega)) (gR_8) rfl mk_X8_84 ki_X8_find kc_X8_find (by decide +kernel) rfl (by decide) dX8_noPairs_119 rfl (Nat.le_of_ble_eq_true rfl) (pI_k ?_)
              exact g_ireturn F hR dX8_noPairs_122 (pH_z (by first | (rw [nRf_1 (by omega)]; done) | (rw [nRf_5 (by omega) (by omega)]; done) | (rw [nRf_y (by omega) (by omega) hAll]; done) | (rw [nRf_3 (by omega) (by omega) hNot]; done)) (by first | (rw [nRf_1 (by omega)]; exact Rel_find hRel (by decide)) | (rw [nRf_5 (by omega) (by omega)]; exact Rel_find hRel (by decide)) | (rw [nRf_y (by omega) (by omega) hAll]; exact hRel) | (rw [nRf_3 (by omega) (by omega) hNot]; exact Rel_find hRel (by decide))) rfl)
            · skip
              have hAll : paP z r (b + 1) (z 17 r 0) := by (have q := ha1 (by omega)); rw [show k - 40 * r = z 17 r 0 by omega] at q; exact q
              refine g_iconst F dX8_noPairs_113 (0) (by decide) ?_
              refine g_goto F 122 dX8_noPairs_114 rfl ?_
              exact g_ireturn F hR dX8_noPairs_122 (pH_z (by first | (rw [nRf_1 (by omega)]; done) | (rw [nRf_5 (by omega) (by omega)]; done) | (rw [nRf_y (by omega) (by omega) hAll]; done) | (rw [nRf_3 (by omega) (by omega) hNot]; done)) (by first | (rw [nRf_1 (by omega)]; exact Rel_find hRel (by decide)) | (rw [nRf_5 (by omega) (by omega)]; exact Rel_find hRel (by decide)) | (rw [nRf_y (by omega) (by omega) hAll]; exact hRel) | (rw [nRf_3 (by omega) (by omega) hNot]; exact Rel_find hRel (by decide))) rfl)
          · skip
            refine g_iload_n F dX8_noPairs_56 rfl 3 rfl ?_
            refine g_if_eq 101 F dX8_noPairs_57 (by omega) rfl (fun c_5 => ?_) (fun c_5 => ?_)
            · skip
              refine g_iconst F dX8_noPairs_101 (0) (by decide) ?_
              refine g_istore_n F [(3, .int (J (0))), (0, .ref (ad 8 (0))), (1, .int (J (r))), (2, .int (J (b))), (4, .int (J (k)))] dX8_noPairs_102 rfl (by decide) rfl ?_
              refine g_iinc F [(4, .int (J (k + 2))), (3, .int (J (0))), (0, .ref (ad 8 (0))), (1, .int (J (r))), (2, .int (J (b)))] 4 rfl dX8_noPairs_103 (by decide) rfl ?_
              refine g_goto F 40 dX8_noPairs_106 rfl ?_
              refine g_sub [2, 3, 4, 1, 0] (lv' := [(0, .ref (ad 8 (0))), (1, .int (J (r))), (2, .int (J (b))), (3, .int (J (0))), (4, .int (J (k + 2)))]) rfl ?_
              exact ih40 (0) (k + 2) (by omega) (by omega) (fun q => by first | (exfalso; omega) | (rw [show k + 2 - 40 * r = k - 40 * r + 2 by omega]; exact (paP_s (by omega) (by omega)).mpr ⟨hp1, by omega, by omega⟩)) (fun q => by first | (exfalso; omega) | exact ha0 (by omega) | exact paP_no (j := k - 40 * r) (by omega) (by omega) (by omega) (by omega)) (by omega)
            · skip
              have hp1 := ha1 (by omega)
              have hb1 := hi20 (k - 40 * r)
              have hb2 := hi20 (k - 40 * r + 1)
              clear ha1
              refine g_aload_n F dX8_noPairs_60 rfl 0 rfl ?_
              refine gg_Model_items F fk_X8_28 dX8_noPairs_61 ?_
              refine g_iload F dX8_noPairs_64 4 rfl ?_
              refine ga_46 F (by omega) dX8_noPairs_66 ?_
              refine g_topi (b := z 20 r (k - 40 * r)) (by (have e := (hRel.2.2.2.1.1 r (by omega) (by omega)).2 (k - 40 * r) (by omega) (by omega)); rw [← e]; congr 1; omega) ?_
              refine g_i2l F dX8_noPairs_67 (hb1) ?_
              refine g_lconst F dX8_noPairs_68 0 (by decide) ?_
              refine g_iload_n F dX8_noPairs_69 rfl 2 rfl ?_
              refine g_i2l F dX8_noPairs_70 (by omega) ?_
              refine g_callS 3 F (As := [.long (Lg (z 20 r (k - 40 * r))), .long (Lg (0)), .long (Lg (b))]) (st := []) (c_X8_in l D ad x y (z 20 r (k - 40 * r)) (0) (b) (by omega) (by omega) (by omega)) rfl mk_X8_74 ki_X8_in kc_X8_in (by decide +kernel) rfl (by decide) dX8_noPairs_71 rfl (Nat.le_of_ble_eq_true rfl) (pB_k ?_)
              refine g_ifb_eq 101 F dX8_noPairs_74 rfl (fun c_6 => ?_) (fun c_6 => ?_)
              · skip
                refine g_iconst F dX8_noPairs_101 (0) (by decide) ?_
                refine g_istore_n F [(3, .int (J (0))), (0, .ref (ad 8 (0))), (1, .int (J (r))), (2, .int (J (b))), (4, .int (J (k)))] dX8_noPairs_102 rfl (by decide) rfl ?_
                refine g_iinc F [(4, .int (J (k + 2))), (3, .int (J (0))), (0, .ref (ad 8 (0))), (1, .int (J (r))), (2, .int (J (b)))] 4 rfl dX8_noPairs_103 (by decide) rfl ?_
                refine g_goto F 40 dX8_noPairs_106 rfl ?_
                refine g_sub [2, 3, 4, 1, 0] (lv' := [(0, .ref (ad 8 (0))), (1, .int (J (r))), (2, .int (J (b))), (3, .int (J (0))), (4, .int (J (k + 2)))]) rfl ?_
                exact ih40 (0) (k + 2) (by omega) (by omega) (fun q => by first | (exfalso; omega) | (rw [show k + 2 - 40 * r = k - 40 * r + 2 by omega]; exact (paP_s (by omega) (by omega)).mpr ⟨hp1, by omega, by omega⟩)) (fun q => by first | (exfalso; omega) | exact ha0 (by omega) | exact paP_no (j := k - 40 * r) (by omega) (by omega) (by omega) (by omega)) (by omega)
              · skip
                refine g_aload_n F dX8_noPairs_77 rfl 0 rfl ?_
                refine gg_Model_items F fk_X8_28 dX8_noPairs_78 ?_
                refine g_iload F dX8_noPairs_81 4 rfl ?_
                refine g_iconst F dX8_noPairs_83 (1) (by decide) ?_
                refine g_iadd F dX8_noPairs_84 ?_
                refine ga_46 F (by omega) dX8_noPairs_85 ?_
                refine g_topi (b := z 20 r (k - 40 * r + 1)) (by (have e := (hRel.2.2.2.1.1 r (by omega) (by omega)).2 (k - 40 * r + 1) (by omega) (by omega)); rw [← e]; congr 1; omega) ?_
                refine g_i2l F dX8_noPairs_86 (hb2) ?_
                refine g_lconst F dX8_noPairs_87 0 (by decide) ?_
                refine g_ldc2 F ck_X8_232 dX8_noPairs_88 (2) (by decide) ?_
                refine g_callS 3 F (As := [.long (Lg (z 20 r (k - 40 * r + 1))), .long (Lg (0)), .long (Lg (2))]) (st := []) (c_X8_in l D ad x y (z 20 r (k - 40 * r + 1)) (0) (2) (by omega) (by omega) (by omega)) rfl mk_X8_74 ki_X8_in kc_X8_in (by decide +kernel) rfl (by decide) dX8_noPairs_91 rfl (Nat.le_of_ble_eq_true rfl) (pB_k ?_)
                refine g_ifb_eq 101 F dX8_noPairs_94 rfl (fun c_7 => ?_) (fun c_7 => ?_)
                · skip
                  refine g_iconst F dX8_noPairs_101 (0) (by decide) ?_
                  refine g_istore_n F [(3, .int (J (0))), (0, .ref (ad 8 (0))), (1, .int (J (r))), (2, .int (J (b))), (4, .int (J (k)))] dX8_noPairs_102 rfl (by decide) rfl ?_
                  refine g_iinc F [(4, .int (J (k + 2))), (3, .int (J (0))), (0, .ref (ad 8 (0))), (1, .int (J (r))), (2, .int (J (b)))] 4 rfl dX8_noPairs_103 (by decide) rfl ?_
                  refine g_goto F 40 dX8_noPairs_106 rfl ?_
                  refine g_sub [2, 3, 4, 1, 0] (lv' := [(0, .ref (ad 8 (0))), (1, .int (J (r))), (2, .int (J (b))), (3, .int (J (0))), (4, .int (J (k + 2)))]) rfl ?_
                  exact ih40 (0) (k + 2) (by omega) (by omega) (fun q => by first | (exfalso; omega) | (rw [show k + 2 - 40 * r = k - 40 * r + 2 by omega]; exact (paP_s (by omega) (by omega)).mpr ⟨hp1, by omega, by omega⟩)) (fun q => by first | (exfalso; omega) | exact ha0 (by omega) | exact paP_no (j := k - 40 * r) (by omega) (by omega) (by omega) (by omega)) (by omega)
                · skip
                  refine g_iconst F dX8_noPairs_97 (1) (by decide) ?_
                  refine g_goto F 102 dX8_noPairs_98 rfl ?_
                  refine g_istore_n F [(3, .int (J (1))), (0, .ref (ad 8 (0))), (1, .int (J (r))), (2, .int (J (b))), (4, .int (J (k)))] dX8_noPairs_102 rfl (by decide) rfl ?_
                  refine g_iinc F [(4, .int (J (k + 2))), (3, .int (J (1))), (0, .ref (ad 8 (0))), (1, .int (J (r))), (2, .int (J (b)))] 4 rfl dX8_noPairs_103 (by decide) rfl ?_
                  refine g_goto F 40 dX8_noPairs_106 rfl ?_
                  refine g_sub [2, 3, 4, 1, 0] (lv' := [(0, .ref (ad 8 (0))), (1, .int (J (r))), (2, .int (J (b))), (3, .int (J (1))), (4, .int (J (k + 2)))]) rfl ?_
                  exact ih40 (1) (k + 2) (by omega) (by omega) (fun q => by first | (exfalso; omega) | (rw [show k + 2 - 40 * r = k - 40 * r + 2 by omega]; exact (paP_s (by omega) (by omega)).mpr ⟨hp1, by omega, by omega⟩)) (fun q => by first | (exfalso; omega) | exact ha0 (by omega) | exact paP_no (j := k - 40 * r) (by omega) (by omega) (by omega) (by omega)) (by omega)
      refine g_sub [2, 3, 4, 1, 0] (lv' := [(0, .ref (ad 8 (0))), (1, .int (J (r))), (2, .int (J (b))), (3, .int (J (1))), (4, .int (J ((40) * (r))))]) rfl ?_
      exact L40 _ (1) ((40) * (r)) (by omega) (by omega) (fun _ => by rw [show (40 : Int) * r - 40 * r = 0 by omega]; rfl) (fun q => absurd q (by decide)) (Nat.lt_succ_self _)
    · skip
      refine g_aload_n F dX8_noPairs_26 rfl 0 rfl ?_
      refine g_iconst F dX8_noPairs_27 (5) (by decide) ?_
      refine g_callV 1 F (As := [.int (J (5))]) (st := []) (c_X8_find l D ad x y (5) (by omega)) (gR_8) rfl mk_X8_84 ki_X8_find kc_X8_find (by decide +kernel) rfl (by decide) dX8_noPairs_28 rfl (Nat.le_of_ble_eq_true rfl) (pI_k ?_)
      exact g_ireturn F hR dX8_noPairs_31 (pH_z (by first | (rw [nRf_1 (by omega)]; done) | (rw [nRf_5 (by omega) (by omega)]; done) | (rw [nRf_y (by omega) (by omega) hAll]; done) | (rw [nRf_3 (by omega) (by omega) hNot]; done)) (by first | (rw [nRf_1 (by omega)]; exact Rel_find hRel (by decide)) | (rw [nRf_5 (by omega) (by omega)]; exact Rel_find hRel (by decide)) | (rw [nRf_y (by omega) (by omega) hAll]; exact hRel) | (rw [nRf_3 (by omega) (by omega) hNot]; exact Rel_find hRel (by decide))) rfl)
  · skip
    refine g_aload_n F dX8_noPairs_9 rfl 0 rfl ?_
    refine g_iconst F dX8_noPairs_10 (1) (by decide) ?_
    refine g_callV 1 F (As := [.int (J (1))]) (st := []) (c_X8_find l D ad x y (1) (by omega)) (gR_8) rfl mk_X8_84 ki_X8_find kc_X8_find (by decide +kernel) rfl (by decide) dX8_noPairs_11 rfl (Nat.le_of_ble_eq_true rfl) (pI_k ?_)
    exact g_ireturn F hR dX8_noPairs_14 (pH_z (by first | (rw [nRf_1 (by omega)]; done) | (rw [nRf_5 (by omega) (by omega)]; done) | (rw [nRf_y (by omega) (by omega) hAll]; done) | (rw [nRf_3 (by omega) (by omega) hNot]; done)) (by first | (rw [nRf_1 (by omega)]; exact Rel_find hRel (by decide)) | (rw [nRf_5 (by omega) (by omega)]; exact Rel_find hRel (by decide)) | (rw [nRf_y (by omega) (by omega) hAll]; exact hRel) | (rw [nRf_3 (by omega) (by omega) hNot]; exact Rel_find hRel (by decide))) rfl)

set_option maxRecDepth 20000 in
theorem c_X8_fitting (l : Launch) (D : gD) (ad : gA) (x : gX) (y : gY) (z : gX) (r : Int) (hr : 0 ≤ r ∧ r < 6) (hRel : Rel z y) (hs : 0 ≤ z 17 r 0 ∧ z 17 r 0 ≤ 40 ∧ z 17 r 0 % 2 = 0) (hp : ∀ q : Int, 0 ≤ q → 2 * q < z 17 r 0 → (0 ≤ z 20 r (2 * q) ∧ z 20 r (2 * q) < z 10 0 0) ∧ 0 ≤ z 20 r (2 * q + 1) ∧ z 20 r (2 * q + 1) ≤ 2) : gC l D ad 6 yX8_fitting cX8_fitting 6 (some .int) [.ref (ad 8 (0)), .int (J (r))] x y (pI (ftU z r) (x) (y)) := by
  refine g_met RX8 rfl (by decide +kernel) [(0, .ref (ad 8 (0))), (1, .int (J (r)))] rfl (Nat.le_of_ble_eq_true rfl) (fun Θ F hR => ?_)
  have hN := hRel.1.1
  have hRW := hRel.1.2.1
  have hDD := hRel.1.2.2.1
  have hST := hRel.2.1
  have hB := Rel_SB hRel
  have h10 := hN.2.1
  have h15 := hN.2.2.1
  clear hRW hDD
  refine g_iconst F dX8_fitting_0 (0) (by decide) ?_
  refine g_istore_n F [(2, .int (J (0))), (0, .ref (ad 8 (0))), (1, .int (J (r)))] dX8_fitting_1 rfl (by decide) rfl ?_
  refine g_iconst F dX8_fitting_2 (0) (by decide) ?_
  refine g_istore_n F [(3, .int (J (0))), (2, .int (J (0))), (0, .ref (ad 8 (0))), (1, .int (J (r)))] dX8_fitting_3 rfl (by decide) rfl ?_
  have L4 : ∀ (N : Nat) (a : Int) (h : Int), 0 ≤ h ∧ h ≤ 31 → a = bitsZ (fun h => ftP z r h (z 17 r 0 / 2)) h → (31 - h).toNat < N → gW Θ l D ad 6 4 [(0, .ref (ad 8 (0))), (1, .int (J (r))), (2, .int (J (a))), (3, .int (J (h)))] [] x y := by
    intro N
    induction N with
    | zero => intro a h hh ha hFu; omega
    | succ N ih4 =>
      intro a h hh ha hFu
      refine g_iload_n F dX8_fitting_4 rfl 3 rfl ?_
      refine g_bipush F dX8_fitting_5 (31) (by decide) ?_
      refine g_icmp_ge 99 F dX8_fitting_7 (by omega) (by decide) rfl (fun c_1 => ?_) (fun c_1 => ?_)
      · skip
        refine g_iload_n F dX8_fitting_99 rfl 2 rfl ?_
        exact g_ireturn F hR dX8_fitting_100 (pI_i (by exact ha.trans (by rw [show h = 31 by omega])) rfl rfl)
      · skip
        have ra := bitZ_r (P := fun h => ftP z r h (z 17 r 0 / 2)) (n := h) (by omega)
        refine g_iconst F dX8_fitting_10 (1) (by decide) ?_
        refine g_istore F [(4, .int (J (1))), (0, .ref (ad 8 (0))), (1, .int (J (r))), (2, .int (J (a))), (3, .int (J (h)))] dX8_fitting_11 (by decide) rfl ?_
        refine g_bipush F dX8_fitting_13 (40) (by decide) ?_
        refine g_iload_n F dX8_fitting_15 rfl 2 rfl ?_
        refine g_imul F dX8_fitting_16 ?_
        refine g_istore F [(5, .int (J ((40) * (r)))), (4, .int (J (1))), (0, .ref (ad 8 (0))), (1, .int (J (r))), (2, .int (J (a))), (3, .int (J (h)))] dX8_fitting_17 (by decide) rfl ?_
        have L19 : ∀ (N : Nat) (e : Int) (k : Int), (40 * r ≤ k ∧ k ≤ 40 * r + z 17 r 0) ∧ (k - 40 * r) % 2 = 0 → e = 0 ∨ e = 1 → (e = 1 → ftP z r h ((k - 40 * r) / 2)) → (e = 0 → ¬ ftP z r h (z 17 r 0 / 2)) → (40 * r + z 17 r 0 - k).toNat < N → gW Θ l D ad 6 19 [(0, .ref (ad 8 (0))), (1, .int (J (r))), (2, .int (J (a))), (3, .int (J (h))), (4, .int (J (e))), (5, .int (J (k)))] [] x y := by
          intro N
          induction N with
          | zero => intro e k hk he01 he1 he0 hFu; omega
          | succ N ih19 =>
            intro e k hk he01 he1 he0 hFu
            refine g_iload F dX8_fitting_19 5 rfl ?_
            refine g_bipush F dX8_fitting_21 (40) (by decide) ?_
            refine g_iload_n F dX8_fitting_23 rfl 1 rfl ?_
            refine g_imul F dX8_fitting_24 ?_
            refine g_aload_n F dX8_fitting_25 rfl 0 rfl ?_
            refine gg_Model_sizes F fk_X8_25 dX8_fitting_26 ?_
            refine g_iload_n F dX8_fitting_29 rfl 1 rfl ?_
            refine ga_45 F (by omega) dX8_fitting_30 ?_
            refine g_topi (b := z 17 (r) 0) ((hRel.2.2.2.1.1 _ (by omega) (by omega)).1) ?_
            refine g_iadd F dX8_fitting_31 ?_
            refine g_icmp_ge 78 F dX8_fitting_32 (by omega) (by omega) rfl (fun c_2 => ?_) (fun c_2 => ?_)
            · skip
              refine g_iload_n F dX8_fitting_78 rfl 2 rfl ?_
              refine g_iload F dX8_fitting_79 4 rfl ?_
              refine g_if_eq 90 F dX8_fitting_81 (by omega) rfl (fun c_3 => ?_) (fun c_3 => ?_)
              · skip
                have hNot := he0 (by omega)
                refine g_iconst F dX8_fitting_90 (0) (by decide) ?_
                refine g_ior F dX8_fitting_91 (a) (J_or0 _) ?_
                refine g_istore_n F [(2, .int (J (a))), (0, .ref (ad 8 (0))), (1, .int (J (r))), (3, .int (J (h))), (4, .int (J (e))), (5, .int (J (k)))] dX8_fitting_92 rfl (by decide) rfl ?_
                refine g_iinc F [(3, .int (J (h + 1))), (2, .int (J (a))), (0, .ref (ad 8 (0))), (1, .int (J (r))), (4, .int (J (e))), (5, .int (J (k)))] 3 rfl dX8_fitting_93 (by decide) rfl ?_
                refine g_goto F 4 dX8_fitting_96 rfl ?_
                refine g_sub [2, 3, 1, 0] (lv' := [(0, .ref (ad 8 (0))), (1, .int (J (r))), (2, .int (J (a))), (3, .int (J (h + 1)))]) rfl ?_
                exact ih4 (a) (h + 1) (by omega) (by rw [ha]; first | exact (bitsZ_y (P := fun h => ftP z r h (z 17 r 0 / 2)) (by omega) hAll).symm | exact (bitsZ_n (P := fun h => ftP z r h (z 17 r 0 / 2)) (by omega) hNot).symm) (by omega)
              · skip
                have hAll : ftP z r h (z 17 r 0 / 2) := by (have q := he1 (by omega)); rw [show k - 40 * r = z 17 r 0 by omega] at q; exact q
                refine g_iconst F dX8_fitting_84 (1) (by decide) ?_
                refine g_iload_n F dX8_fitting_85 rfl 3 rfl ?_
                refine g_ishl F dX8_fitting_86 (p2 (h)) (J_shl (by omega)) ?_
                refine g_goto F 91 dX8_fitting_87 rfl ?_
                refine g_ior F dX8_fitting_91 (a + p2 h) (J_or (by rw [ha]; exact ra.1) (by rw [ha]; exact ra.2) (by omega)) ?_
                refine g_istore_n F [(2, .int (J (a + p2 h))), (0, .ref (ad 8 (0))), (1, .int (J (r))), (3, .int (J (h))), (4, .int (J (e))), (5, .int (J (k)))] dX8_fitting_92 rfl (by decide) rfl ?_
                refine g_iinc F [(3, .int (J (h + 1))), (2, .int (J (a + p2 h))), (0, .ref (ad 8 (0))), (1, .int (J (r))), (4, .int (J (e))), (5, .int (J (k)))] 3 rfl dX8_fitting_93 (by decide) rfl ?_
                refine g_goto F 4 dX8_fitting_96 rfl ?_
                refine g_sub [2, 3, 1, 0] (lv' := [(0, .ref (ad 8 (0))), (1, .int (J (r))), (2, .int (J (a + p2 h))), (3, .int (J (h + 1)))]) rfl ?_
                exact ih4 (a + p2 h) (h + 1) (by omega) (by rw [ha]; first | exact (bitsZ_y (P := fun h => ftP z r h (z 17 r 0 / 2)) (by omega) hAll).symm | exact (bitsZ_n (P := fun h => ftP z r h (z 17 r 0 / 2)) (by omega) hNot).symm) (by omega)
            · skip
              refine g_iload F dX8_fitting_35 4 rfl ?_
              refine g_if_eq 69 F dX8_fitting_37 (by omega) rfl (fun c_4 => ?_) (fun c_4 => ?_)
              · skip
                refine g_iconst F dX8_fitting_69 (0) (by decide) ?_
                refine g_istore F [(4, .int (J (0))), (0, .ref (ad 8 (0))), (1, .int (J (r))), (2, .int (J (a))), (3, .int (J (h))), (5, .int (J (k)))] dX8_fitting_70 (by decide) rfl ?_
                refine g_iinc F [(5, .int (J (k + 2))), (4, .int (J (0))), (0, .ref (ad 8 (0))), (1, .int (J (r))), (2, .int (J (a))), (3, .int (J (h)))] 5 rfl dX8_fitting_72 (by decide) rfl ?_
                refine g_goto F 19 dX8_fitting_75 rfl ?_
                refine g_sub [2, 3, 4, 5, 1, 0] (lv' := [(0, .ref (ad 8 (0))), (1, .int (J (r))), (2, .int (J (a))), (3, .int (J (h))), (4, .int (J (0))), (5, .int (J (k + 2)))]) rfl ?_
                exact ih19 (0) (k + 2) (by omega) (by omega) (fun q => by first | (exfalso; omega) | (rw [show k + 2 - 40 * r = k - 40 * r + 2 by omega]; exact (ft_s (by omega) (by omega)).mpr ⟨hp1, by omega⟩)) (fun q => by first | (exfalso; omega) | exact he0 (by omega) | exact ft_no (j := k - 40 * r) (by omega) (by omega) (by omega) (by omega)) (by omega)
              · skip
                have hp1 := he1 (by omega)
                clear he1
                have hpk := hp ((k - 40 * r) / 2) (by omega) (by omega)
                rw [show 2 * ((k - 40 * r) / 2) = k - 40 * r by omega] at hpk
                have hv := vU_r z (z 20 r (k - 40 * r)) h
                refine g_aload_n F dX8_fitting_40 rfl 0 rfl ?_
                refine g_iconst F dX8_fitting_41 (0) (by decide) ?_
                refine g_aload_n F dX8_fitting_42 rfl 0 rfl ?_
                refine gg_Model_items F fk_X8_28 dX8_fitting_43 ?_
                refine g_iload F dX8_fitting_46 5 rfl ?_
                refine ga_46 F (by omega) dX8_fitting_48 ?_
                refine g_topi (b := z 20 r (k - 40 * r)) (by (have e := (hRel.2.2.2.1.1 r (by omega) (by omega)).2 (k - 40 * r) (by omega) (by omega)); rw [← e]; congr 1; omega) ?_
                refine g_iload_n F dX8_fitting_49 rfl 3 rfl ?_
                refine g_callV 3 F (As := [.int (J (0)), .int (J (z 20 r (k - 40 * r))), .int (J (h))]) (st := []) (c_X8_tellsAt l D ad x y z (0) (z 20 r (k - 40 * r)) (h) (hST) (hN) (hB) (by omega) (by omega) (by omega)) (gR_8) rfl mk_X8_222 ki_X8_tellsAt kc_X8_tellsAt (by decide +kernel) rfl (by decide) dX8_fitting_50 rfl (Nat.le_of_ble_eq_true rfl) (pI_k ?_)
                refine g_aload_n F dX8_fitting_53 rfl 0 rfl ?_
                refine gg_Model_items F fk_X8_28 dX8_fitting_54 ?_
                refine g_iload F dX8_fitting_57 5 rfl ?_
                refine g_iconst F dX8_fitting_59 (1) (by decide) ?_
                refine g_iadd F dX8_fitting_60 ?_
                refine ga_46 F (by omega) dX8_fitting_61 ?_
                refine g_topi (b := z 20 r (k - 40 * r + 1)) (by (have e := (hRel.2.2.2.1.1 r (by omega) (by omega)).2 (k - 40 * r + 1) (by omega) (by omega)); rw [← e]; congr 1; omega) ?_
                refine g_icmp_ne 69 F dX8_fitting_62 (by omega) (by omega) rfl (fun c_5 => ?_) (fun c_5 => ?_)
                · skip
                  refine g_iconst F dX8_fitting_69 (0) (by decide) ?_
                  refine g_istore F [(4, .int (J (0))), (0, .ref (ad 8 (0))), (1, .int (J (r))), (2, .int (J (a))), (3, .int (J (h))), (5, .int (J (k)))] dX8_fitting_70 (by decide) rfl ?_
                  refine g_iinc F [(5, .int (J (k + 2))), (4, .int (J (0))), (0, .ref (ad 8 (0))), (1, .int (J (r))), (2, .int (J (a))), (3, .int (J (h)))] 5 rfl dX8_fitting_72 (by decide) rfl ?_
                  refine g_goto F 19 dX8_fitting_75 rfl ?_
                  refine g_sub [2, 3, 4, 5, 1, 0] (lv' := [(0, .ref (ad 8 (0))), (1, .int (J (r))), (2, .int (J (a))), (3, .int (J (h))), (4, .int (J (0))), (5, .int (J (k + 2)))]) rfl ?_
                  exact ih19 (0) (k + 2) (by omega) (by omega) (fun q => by first | (exfalso; omega) | (rw [show k + 2 - 40 * r = k - 40 * r + 2 by omega]; exact (ft_s (by omega) (by omega)).mpr ⟨hp1, by omega⟩)) (fun q => by first | (exfalso; omega) | exact he0 (by omega) | exact ft_no (j := k - 40 * r) (by omega) (by omega) (by omega) (by omega)) (by omega)
                · skip
                  refine g_iconst F dX8_fitting_65 (1) (by decide) ?_
                  refine g_goto F 70 dX8_fitting_66 rfl ?_
                  refine g_istore F [(4, .int (J (1))), (0, .ref (ad 8 (0))), (1, .int (J (r))), (2, .int (J (a))), (3, .int (J (h))), (5, .int (J (k)))] dX8_fitting_70 (by decide) rfl ?_
                  refine g_iinc F [(5, .int (J (k + 2))), (4, .int (J (1))), (0, .ref (ad 8 (0))), (1, .int (J (r))), (2, .int (J (a))), (3, .int (J (h)))] 5 rfl dX8_fitting_72 (by decide) rfl ?_
                  refine g_goto F 19 dX8_fitting_75 rfl ?_
                  refine g_sub [2, 3, 4, 5, 1, 0] (lv' := [(0, .ref (ad 8 (0))), (1, .int (J (r))), (2, .int (J (a))), (3, .int (J (h))), (4, .int (J (1))), (5, .int (J (k + 2)))]) rfl ?_
                  exact ih19 (1) (k + 2) (by omega) (by omega) (fun q => by first | (exfalso; omega) | (rw [show k + 2 - 40 * r = k - 40 * r + 2 by omega]; exact (ft_s (by omega) (by omega)).mpr ⟨hp1, by omega⟩)) (fun q => by first | (exfalso; omega) | exact he0 (by omega) | exact ft_no (j := k - 40 * r) (by omega) (by omega) (by omega) (by omega)) (by omega)
        refine g_sub [2, 3, 4, 5, 1, 0] (lv' := [(0, .ref (ad 8 (0))), (1, .int (J (r))), (2, .int (J (a))), (3, .int (J (h))), (4, .int (J (1))), (5, .int (J ((40) * (r))))]) rfl ?_
        exact L19 _ (1) ((40) * (r)) (by omega) (by omega) (fun _ => by rw [show (40 : Int) * r - 40 * r = 0 by omega]; rfl) (fun q => absurd q (by decide)) (Nat.lt_succ_self _)
  refine g_sub [2, 3, 1, 0] (lv' := [(0, .ref (ad 8 (0))), (1, .int (J (r))), (2, .int (J (0))), (3, .int (J (0)))]) rfl ?_
  exact L4 _ (0) (0) (by omega) (rfl) (Nat.lt_succ_self _)
theorem tRf_a {z : gX} {r : Int} (h : ¬ (0 ≤ r ∧ r < 6)) : tRf z r = (-1, z) := by
  have e : rRf z r = -1 := by unfold rRf; rw [if_pos h]
  unfold tRf; rw [e, if_pos (by decide)]
theorem tRf_b {z : gX} {r : Int} (h : 0 ≤ r ∧ r < 6) (h2 : z 10 0 0 = 0) : tRf z r = (-4, z) := by
  have e : rRf z r = -4 := by unfold rRf; rw [if_neg (fun q => q h), if_pos h2]
  unfold tRf; rw [e, if_pos (by decide)]
theorem tRf_c {z : gX} {r : Int} (h : 0 ≤ r ∧ r < 6) (h2 : z 10 0 0 ≠ 0) : tRf z r = nRf z r (z 10 0 0 - 1 + 1) := by
  have e : rRf z r = 0 := by unfold rRf; rw [if_neg (fun q => q h), if_neg h2]
  rw [Int.sub_add_cancel]
  unfold tRf nRf; rw [e, if_neg (by decide)]
theorem vRf_a {z : gX} {i r : Int} (h : ¬ (mnN z i ∧ 0 ≤ r ∧ r < 6)) : vRf z i r = (-1, z) := by unfold vRf; rw [if_pos h]
theorem vRf_c {z : gX} {i r : Int} (h : mnN z i ∧ 0 ≤ r ∧ r < 6) : vRf z i r = nRf z r (30 + 1) := by unfold vRf nRf; rw [if_neg (fun q => q h)]; rfl
set_option maxRecDepth 20000 in
theorem c_X8_fits (l : Launch) (D : gD) (ad : gA) (x : gX) (y : gY) (z : gX) (r : Int) (hr : i32 r) (hRel : Rel z y) : gC l D ad 7 yX8_fits cX8_fits 4 (some .int) [.ref (ad 8 (0)), .int (J (r))] x y (pH (.int (J ((sFits z r).1))) (x) (fun w9 => Rel (sFits z r).2 w9)) := by
  refine g_met RX8 rfl (by decide +kernel) [(0, .ref (ad 8 (0))), (1, .int (J (r)))] rfl (Nat.le_of_ble_eq_true rfl) (fun Θ F hR => ?_)
  have hN := hRel.1.1
  have hRW := hRel.1.2.1
  have hDD := hRel.1.2.2.1
  have hST := hRel.2.1
  have hB := Rel_SB hRel
  have h10 := hN.2.1
  have h15 := hN.2.2.1
  refine g_iload_n F dX8_fits_0 rfl 1 rfl ?_
  refine g_callS 1 F (As := [.int (J (r))]) (st := []) (c_X8_isRow l D ad x y (r) (by omega)) rfl mk_X8_80 ki_X8_isRow kc_X8_isRow (by decide +kernel) rfl (by decide) dX8_fits_1 rfl (Nat.le_of_ble_eq_true rfl) (pB_k ?_)
  refine g_ifb_ne 9 F dX8_fits_4 rfl (fun c_1 => ?_) (fun c_1 => ?_)
  · skip
    refine g_aload_n F dX8_fits_9 rfl 0 rfl ?_
    refine gg_Model_men F fk_X8_157 dX8_fits_10 ?_
    refine g_topi (b := z 10 0 0) (hST.2.2.2.2.1) ?_
    refine g_if_ne 19 F dX8_fits_13 (by omega) rfl (fun c_2 => ?_) (fun c_2 => ?_)
    · skip
      refine g_aload_n F dX8_fits_19 rfl 0 rfl ?_
      refine g_iload_n F dX8_fits_20 rfl 1 rfl ?_
      refine g_aload_n F dX8_fits_21 rfl 0 rfl ?_
      refine gg_Model_men F fk_X8_157 dX8_fits_22 ?_
      refine g_topi (b := z 10 0 0) (hST.2.2.2.2.1) ?_
      refine g_iconst F dX8_fits_25 (1) (by decide) ?_
      refine g_isub F dX8_fits_26 ?_
      refine g_callV 2 F (As := [.int (J (r)), .int (J ((z 10 0 0) - (1)))]) (st := []) (c_X8_noPairs l D ad x y z (r) ((z 10 0 0) - (1)) (by omega) (by omega) (hRel)) (gR_8) rfl mk_X8_268 ki_X8_noPairs kc_X8_noPairs (by decide +kernel) rfl (by decide) dX8_fits_27 rfl (Nat.le_of_ble_eq_true rfl) (pH_k (fun v_27 hG_27 => ?_))
      have hnr := nRf_r z r (z 10 0 0 - 1 + 1)
      refine g_istore_n F [(2, .int (J ((nRf z (r) (((z 10 0 0) - (1)) + 1)).1))), (0, .ref (ad 8 (0))), (1, .int (J (r)))] dX8_fits_30 rfl (by decide) rfl ?_
      refine g_iload_n F dX8_fits_31 rfl 0 rfl ?_
      refine g_if_eq 37 F dX8_fits_32 (by omega) rfl (fun c_3 => ?_) (fun c_3 => ?_)
      · skip
        have hq := nRf_0 c_3
        have hRz : Rel z v_27 := by have q := hG_27; rw [hq.2] at q; exact q
        have hp0 := pfU_0 hq.1
        have hp2 : paP z r (z 10 0 0) (z 17 r 0) := by have q := hp0.2.2; rw [Int.sub_add_cancel] at q; exact q
        have hw := hRW (r) (by omega) (by omega)
        have hw2 : -1 ≤ z 17 (r) 0 ∧ z 17 (r) 0 ≤ 60 := by have := hw.1; split at this <;> omega
        have hr6 : -1 ≤ z 17 r 0 ∧ z 17 r 0 ≤ 40 := by have := hw.1; rw [if_pos (by omega)] at this; exact this
        refine g_aload_n F dX8_fits_37 rfl 1 rfl ?_
        refine g_iload_n F dX8_fits_38 rfl 2 rfl ?_
        refine g_callV 1 F (As := [.int (J (r))]) (st := []) (c_X8_fitting l D ad x v_27 z (r) (by omega) (hRz) (by have := hw.1; omega) (fun q q0 q1 => paP_2 (by omega) hp2 q q0 q1)) (gR_8) rfl mk_X8_271 ki_X8_fitting kc_X8_fitting (by decide +kernel) rfl (by decide) dX8_fits_39 rfl (Nat.le_of_ble_eq_true rfl) (pI_k ?_)
        refine g_istore_n F [(3, .int (J (ftU z (r)))), (2, .int (J ((nRf z (r) (((z 10 0 0) - (1)) + 1)).1))), (0, .ref (ad 8 (0))), (1, .int (J (r)))] dX8_fits_42 rfl (by decide) rfl ?_
        refine g_aload_n F dX8_fits_43 rfl 2 rfl ?_
        refine g_iload_n F dX8_fits_44 rfl 0 rfl ?_
        refine g_callS 1 F (As := [.int (J (ftU z (r)))]) (st := [.ref (ad 8 (0))]) (c_X8_bits l D ad x v_27 (ftU z (r)) (bits_31)) rfl mk_X8_274 ki_X8_bits kc_X8_bits (by decide +kernel) rfl (by decide) dX8_fits_45 rfl (Nat.le_of_ble_eq_true rfl) (pI_k ?_)
        refine gp_Model_asked F fk_X8_69 dX8_fits_48 ?_
        refine g_iload_n F dX8_fits_51 rfl 0 rfl ?_
        exact g_ireturn F hR dX8_fits_52 (pH_z (by unfold sFits; first | (rw [tRf_a (by omega)]; rfl) | (rw [tRf_b (by omega) (by omega)]; rfl) | (rw [tRf_c (by omega) (by omega)]; first | (rw [if_pos (by omega)]; done) | (rw [if_neg (by omega)]; done))) (by unfold sFits; first | (rw [tRf_a (by omega)]; exact hRel) | (rw [tRf_b (by omega) (by omega)]; exact hRel) | (rw [tRf_c (by omega) (by omega)]; first | (rw [if_pos (by omega)]; exact hG_27) | (rw [if_neg (by omega)]; exact Rel_tell hRz _))) rfl)
      · skip
        refine g_iload_n F dX8_fits_35 rfl 0 rfl ?_
        exact g_ireturn F hR dX8_fits_36 (pH_z (by unfold sFits; first | (rw [tRf_a (by omega)]; rfl) | (rw [tRf_b (by omega) (by omega)]; rfl) | (rw [tRf_c (by omega) (by omega)]; first | (rw [if_pos (by omega)]; done) | (rw [if_neg (by omega)]; done))) (by unfold sFits; first | (rw [tRf_a (by omega)]; exact hRel) | (rw [tRf_b (by omega) (by omega)]; exact hRel) | (rw [tRf_c (by omega) (by omega)]; first | (rw [if_pos (by omega)]; exact hG_27) | (rw [if_neg (by omega)]; exact Rel_tell hRz _))) rfl)
    · skip
      refine g_bipush F dX8_fits_16 (-4) (by decide) ?_
      exact g_ireturn F hR dX8_fits_18 (pH_z (by unfold sFits; first | (rw [tRf_a (by omega)]; rfl) | (rw [tRf_b (by omega) (by omega)]; rfl) | (rw [tRf_c (by omega) (by omega)]; first | (rw [if_pos (by omega)]; done) | (rw [if_neg (by omega)]; done))) (by unfold sFits; first | (rw [tRf_a (by omega)]; exact hRel) | (rw [tRf_b (by omega) (by omega)]; exact hRel) | (rw [tRf_c (by omega) (by omega)]; first | (rw [if_pos (by omega)]; exact hG_27) | (rw [if_neg (by omega)]; exact Rel_tell hRz _))) rfl)
  · skip
    refine g_iconst F dX8_fits_7 (-1) (by decide) ?_
    exact g_ireturn F hR dX8_fits_8 (pH_z (by unfold sFits; first | (rw [tRf_a (by omega)]; rfl) | (rw [tRf_b (by omega) (by omega)]; rfl) | (rw [tRf_c (by omega) (by omega)]; first | (rw [if_pos (by omega)]; done) | (rw [if_neg (by omega)]; done))) (by unfold sFits; first | (rw [tRf_a (by omega)]; exact hRel) | (rw [tRf_b (by omega) (by omega)]; exact hRel) | (rw [tRf_c (by omega) (by omega)]; first | (rw [if_pos (by omega)]; exact hG_27) | (rw [if_neg (by omega)]; exact Rel_tell hRz _))) rfl)

set_option maxRecDepth 20000 in
theorem c_X8_greatestPart (l : Launch) (D : gD) (ad : gA) (x : gX) (y : gY) (z : gX) (i s : Int) (hST : ST z y) (hN : NOK z) (hB : SB z y 0) (hi : 0 ≤ i ∧ i < z 10 0 0) (hs : 0 ≤ s ∧ s < 2147483648) : gC l D ad 6 yX8_greatestPart cX8_greatestPart 6 (some .int) [.ref (ad 8 (0)), .int (J (i)), .int (J (s))] x y (pH (.int (J (gpU z i s))) (x) (fun w9 => ys y w9)) := by
  refine g_met RX8 rfl (by decide +kernel) [(0, .ref (ad 8 (0))), (1, .int (J (i))), (2, .int (J (s)))] rfl (Nat.le_of_ble_eq_true rfl) (fun Θ F hR => ?_)
  have hm := hN.2.2.2 i hi.1 hi.2
  have h10 := hN.2.1
  refine g_iconst F dX8_greatestPart_0 (0) (by decide) ?_
  refine g_istore_n F [(3, .int (J (0))), (0, .ref (ad 8 (0))), (1, .int (J (i))), (2, .int (J (s)))] dX8_greatestPart_1 rfl (by decide) rfl ?_
  have L2 : ∀ (N : Nat) (j : Int), 0 ≤ j ∧ j ≤ 3 → (3 - j).toNat < N → gW Θ l D ad 6 2 [(0, .ref (ad 8 (0))), (1, .int (J (i))), (2, .int (J (s))), (3, .int (J (j)))] [] x (zrM y 53 0 0 j) := by
    intro N
    induction N with
    | zero => intro j hj hFu; omega
    | succ N ih2 =>
      intro j hj hFu
      refine g_iload_n F dX8_greatestPart_2 rfl 3 rfl ?_
      refine g_iconst F dX8_greatestPart_3 (3) (by decide) ?_
      refine g_icmp_ge 20 F dX8_greatestPart_4 (by omega) (by decide) rfl (fun c_1 => ?_) (fun c_1 => ?_)
      · skip
        refine g_iconst F dX8_greatestPart_20 (0) (by decide) ?_
        refine g_istore_n F [(3, .int (J (0))), (0, .ref (ad 8 (0))), (1, .int (J (i))), (2, .int (J (s)))] dX8_greatestPart_21 rfl (by decide) rfl ?_
        refine g_iconst F dX8_greatestPart_22 (0) (by decide) ?_
        refine g_istore F [(4, .int (J (0))), (3, .int (J (0))), (0, .ref (ad 8 (0))), (1, .int (J (i))), (2, .int (J (s)))] dX8_greatestPart_23 (by decide) rfl ?_
        have L25 : ∀ (N : Nat) (w : gY) (m : Int) (j : Int), 0 ≤ j ∧ j ≤ 31 → GPI z i s y w m j → (31 - j).toNat < N → gW Θ l D ad 6 25 [(0, .ref (ad 8 (0))), (1, .int (J (i))), (2, .int (J (s))), (3, .int (J (m))), (4, .int (J (j)))] [] x w := by
          intro N
          induction N with
          | zero => intro w m j hj hw hFu; omega
          | succ N ih25 =>
            intro w m j hj hw hFu
            have hgr := GPI_r hw hj.1
            have hSTw : ST z w := ST_g (fun _ _ _ _ => rfl) ⟨fun k h0 h1 => hw.1 k 0 (by omega), fun k q h0 h1 => hw.1 k q (by omega), fun q hq => hw.1 40 q (by omega)⟩ h10.2 hST
            have hBw : SB z w 0 := fun k k0 k1 => by rw [hw.1 40 _ (by omega)]; exact hB k k0 k1
            refine g_iload F dX8_greatestPart_25 4 rfl ?_
            refine g_bipush F dX8_greatestPart_27 (31) (by decide) ?_
            refine g_icmp_ge 91 F dX8_greatestPart_29 (by omega) (by decide) rfl (fun c_2 => ?_) (fun c_2 => ?_)
            · skip
              refine g_iload_n F dX8_greatestPart_91 rfl 3 rfl ?_
              exact g_ireturn F hR dX8_greatestPart_92 (pH_z (by rw [hw.2.2, show j = 31 by omega]; rfl) (by exact hw.1) rfl)
            · skip
              refine g_iload_n F dX8_greatestPart_32 rfl 2 rfl ?_
              refine g_iload F dX8_greatestPart_33 4 rfl ?_
              refine g_callS 2 F (As := [.int (J (s)), .int (J (j))]) (st := []) (c_X8_has l D ad x w (s) (j) (by omega) (by omega)) rfl mk_X8_216 ki_X8_has kc_X8_has (by decide +kernel) rfl (by decide) dX8_greatestPart_35 rfl (Nat.le_of_ble_eq_true rfl) (pB_k ?_)
              refine g_ifb_eq 85 F dX8_greatestPart_38 rfl (fun c_3 => ?_) (fun c_3 => ?_)
              · skip
                have hbn : ¬ s / p2 j % 2 = 1 := c_3
                refine g_iinc F [(4, .int (J (j + 1))), (0, .ref (ad 8 (0))), (1, .int (J (i))), (2, .int (J (s))), (3, .int (J (m)))] 4 rfl dX8_greatestPart_85 (by decide) rfl ?_
                refine g_goto F 25 dX8_greatestPart_88 rfl ?_
                refine g_sub [1, 2, 3, 4, 0] (lv' := [(0, .ref (ad 8 (0))), (1, .int (J (i))), (2, .int (J (s))), (3, .int (J (m))), (4, .int (J (j + 1)))]) rfl ?_
                exact ih25 (w) (m) (j + 1) (by omega) (by first | exact GPI_n hw hj.1 hbn | exact GPI_y hw hj.1 hby (by omega)) (by omega)
              · skip
                have hby : s / p2 j % 2 = 1 := c_3
                have hv := vU_r z i j
                refine g_aload_n F dX8_greatestPart_41 rfl 0 rfl ?_
                refine g_iconst F dX8_greatestPart_42 (0) (by decide) ?_
                refine g_iload_n F dX8_greatestPart_43 rfl 1 rfl ?_
                refine g_iload F dX8_greatestPart_44 4 rfl ?_
                refine g_callV 3 F (As := [.int (J (0)), .int (J (i)), .int (J (j))]) (st := []) (c_X8_tellsAt l D ad x w z (0) (i) (j) (hSTw) (hN) (hBw) (by omega) (by omega) (by omega)) (gR_8) rfl mk_X8_222 ki_X8_tellsAt kc_X8_tellsAt (by decide +kernel) rfl (by decide) dX8_greatestPart_46 rfl (Nat.le_of_ble_eq_true rfl) (pI_k ?_)
                have hgv := hgr.2 (vU z i j) hv.1 (by omega)
                refine g_istore F [(5, .int (J (vU z (i) (j)))), (0, .ref (ad 8 (0))), (1, .int (J (i))), (2, .int (J (s))), (3, .int (J (m))), (4, .int (J (j)))] dX8_greatestPart_49 (by decide) rfl ?_
                refine g_aload_n F dX8_greatestPart_51 rfl 1 rfl ?_
                refine gg_Model_parts F fk_X8_53 dX8_greatestPart_52 ?_
                refine g_iload F dX8_greatestPart_55 0 rfl ?_
                refine g_dup2 F dX8_greatestPart_57 rfl rfl ?_
                refine ga_53 F (by omega) dX8_greatestPart_58 ?_
                refine g_iconst F dX8_greatestPart_59 (1) (by decide) ?_
                refine g_iadd F dX8_greatestPart_60 ?_
                refine gs_53 F (by omega) dX8_greatestPart_61 ?_
                refine g_aload_n F dX8_greatestPart_62 rfl 1 rfl ?_
                refine gg_Model_parts F fk_X8_53 dX8_greatestPart_63 ?_
                refine g_iload F dX8_greatestPart_66 0 rfl ?_
                refine ga_53 F (by omega) dX8_greatestPart_68 ?_
                refine g_topi (b := (w 53 (vU z (i) (j))) + (1)) (by simp [yU]) ?_
                refine g_iload_n F dX8_greatestPart_69 rfl 4 rfl ?_
                refine g_icmp_le 83 F dX8_greatestPart_70 (by omega) (by omega) rfl (fun c_4 => ?_) (fun c_4 => ?_)
                · skip
                  refine g_iload_n F dX8_greatestPart_83 rfl 4 rfl ?_
                  refine g_istore_n F [(3, .int (J (m))), (5, .int (J (vU z (i) (j)))), (0, .ref (ad 8 (0))), (1, .int (J (i))), (2, .int (J (s))), (4, .int (J (j)))] dX8_greatestPart_84 rfl (by decide) rfl ?_
                  refine g_iinc F [(4, .int (J (j + 1))), (3, .int (J (m))), (5, .int (J (vU z (i) (j)))), (0, .ref (ad 8 (0))), (1, .int (J (i))), (2, .int (J (s)))] 5 rfl dX8_greatestPart_85 (by decide) rfl ?_
                  refine g_goto F 25 dX8_greatestPart_88 rfl ?_
                  refine g_sub [3, 4, 5, 1, 0] (lv' := [(0, .ref (ad 8 (0))), (1, .int (J (i))), (2, .int (J (s))), (3, .int (J (m))), (4, .int (J (j + 1)))]) rfl ?_
                  exact ih25 ((yU w 53 (vU z (i) (j)) ((w 53 (vU z (i) (j))) + (1)))) (m) (j + 1) (by omega) (by first | exact GPI_n hw hj.1 hbn | exact GPI_y hw hj.1 hby (by omega)) (by omega)
                · skip
                  refine g_aload_n F dX8_greatestPart_73 rfl 1 rfl ?_
                  refine gg_Model_parts F fk_X8_53 dX8_greatestPart_74 ?_
                  refine g_iload F dX8_greatestPart_77 0 rfl ?_
                  refine ga_53 F (by omega) dX8_greatestPart_79 ?_
                  refine g_topi (b := (w 53 (vU z (i) (j))) + (1)) (by simp [yU]) ?_
                  refine g_goto F 84 dX8_greatestPart_80 rfl ?_
                  refine g_istore_n F [(3, .int (J ((w 53 (vU z (i) (j))) + (1)))), (5, .int (J (vU z (i) (j)))), (0, .ref (ad 8 (0))), (1, .int (J (i))), (2, .int (J (s))), (4, .int (J (j)))] dX8_greatestPart_84 rfl (by decide) rfl ?_
                  refine g_iinc F [(4, .int (J (j + 1))), (3, .int (J ((w 53 (vU z (i) (j))) + (1)))), (5, .int (J (vU z (i) (j)))), (0, .ref (ad 8 (0))), (1, .int (J (i))), (2, .int (J (s)))] 5 rfl dX8_greatestPart_85 (by decide) rfl ?_
                  refine g_goto F 25 dX8_greatestPart_88 rfl ?_
                  refine g_sub [3, 4, 5, 1, 0] (lv' := [(0, .ref (ad 8 (0))), (1, .int (J (i))), (2, .int (J (s))), (3, .int (J ((w 53 (vU z (i) (j))) + (1)))), (4, .int (J (j + 1)))]) rfl ?_
                  exact ih25 ((yU w 53 (vU z (i) (j)) ((w 53 (vU z (i) (j))) + (1)))) ((w 53 (vU z (i) (j))) + (1)) (j + 1) (by omega) (by first | exact GPI_n hw hj.1 hbn | exact GPI_y hw hj.1 hby (by omega)) (by omega)
        refine g_sub [2, 3, 4, 1, 0] (lv' := [(0, .ref (ad 8 (0))), (1, .int (J (i))), (2, .int (J (s))), (3, .int (J (0))), (4, .int (J (0)))]) rfl ?_
        exact L25 _ ((zrM y 53 0 0 j)) (0) (0) (by omega) (⟨fun k q c => by unfold zrM; rw [if_neg (by omega)], fun v v0 v1 => by (unfold zrM; rw [if_pos (by omega)]; rfl), rfl⟩) (Nat.lt_succ_self _)
      · skip
        refine g_aload_n F dX8_greatestPart_7 rfl 0 rfl ?_
        refine gg_Model_parts F fk_X8_53 dX8_greatestPart_8 ?_
        refine g_iload_n F dX8_greatestPart_11 rfl 3 rfl ?_
        refine g_iconst F dX8_greatestPart_12 (0) (by decide) ?_
        refine gs_53 F (by omega) dX8_greatestPart_13 ?_
        refine g_iinc F [(3, .int (J (j + 1))), (0, .ref (ad 8 (0))), (1, .int (J (i))), (2, .int (J (s)))] 3 rfl dX8_greatestPart_14 (by decide) rfl ?_
        refine g_goto F 2 dX8_greatestPart_17 rfl ?_
        refine g_sub [1, 2, 3, 0] (lv' := [(0, .ref (ad 8 (0))), (1, .int (J (i))), (2, .int (J (s))), (3, .int (J (j + 1)))]) rfl ?_
        exact gW_eq (ih2 (j + 1) (by omega) (by omega)) rfl rfl rfl (rfl) (zrM_s0 _ _ _ (by omega))
  refine g_sub [1, 2, 3, 0] (lv' := [(0, .ref (ad 8 (0))), (1, .int (J (i))), (2, .int (J (s))), (3, .int (J (0)))]) rfl ?_
  exact gW_eq (L2 _ (0) (by omega) (Nat.lt_succ_self _)) rfl rfl rfl (rfl) ((zrM_0 _ _ _ _).symm)

set_option maxRecDepth 20000 in
theorem c_X8_ask (l : Launch) (D : gD) (ad : gA) (x : gX) (y : gY) (z : gX) (r : Int) (hr : i32 r) (hRel : Rel z y) : gC l D ad 7 yX8_ask cX8_ask 6 (some .int) [.ref (ad 8 (0)), .int (J (r))] x y (pH (.int (J ((sAsk z r).1))) (x) (fun w9 => Rel (sAsk z r).2 w9)) := by
  refine g_met RX8 rfl (by decide +kernel) [(0, .ref (ad 8 (0))), (1, .int (J (r)))] rfl (Nat.le_of_ble_eq_true rfl) (fun Θ F hR => ?_)
  have hN := hRel.1.1
  have hRW := hRel.1.2.1
  have hDD := hRel.1.2.2.1
  have hST := hRel.2.1
  have hB := Rel_SB hRel
  have h10 := hN.2.1
  have h15 := hN.2.2.1
  refine g_iload_n F dX8_ask_0 rfl 1 rfl ?_
  refine g_callS 1 F (As := [.int (J (r))]) (st := []) (c_X8_isRow l D ad x y (r) (by omega)) rfl mk_X8_80 ki_X8_isRow kc_X8_isRow (by decide +kernel) rfl (by decide) dX8_ask_1 rfl (Nat.le_of_ble_eq_true rfl) (pB_k ?_)
  refine g_ifb_ne 9 F dX8_ask_4 rfl (fun c_1 => ?_) (fun c_1 => ?_)
  · skip
    refine g_aload_n F dX8_ask_9 rfl 0 rfl ?_
    refine gg_Model_men F fk_X8_157 dX8_ask_10 ?_
    refine g_topi (b := z 10 0 0) (hST.2.2.2.2.1) ?_
    refine g_if_ne 19 F dX8_ask_13 (by omega) rfl (fun c_2 => ?_) (fun c_2 => ?_)
    · skip
      refine g_aload_n F dX8_ask_19 rfl 0 rfl ?_
      refine g_iload_n F dX8_ask_20 rfl 1 rfl ?_
      refine g_aload_n F dX8_ask_21 rfl 0 rfl ?_
      refine gg_Model_men F fk_X8_157 dX8_ask_22 ?_
      refine g_topi (b := z 10 0 0) (hST.2.2.2.2.1) ?_
      refine g_iconst F dX8_ask_25 (1) (by decide) ?_
      refine g_isub F dX8_ask_26 ?_
      refine g_callV 2 F (As := [.int (J (r)), .int (J ((z 10 0 0) - (1)))]) (st := []) (c_X8_noPairs l D ad x y z (r) ((z 10 0 0) - (1)) (by omega) (by omega) (hRel)) (gR_8) rfl mk_X8_268 ki_X8_noPairs kc_X8_noPairs (by decide +kernel) rfl (by decide) dX8_ask_27 rfl (Nat.le_of_ble_eq_true rfl) (pH_k (fun v_27 hG_27 => ?_))
      have hnr := nRf_r z r (z 10 0 0 - 1 + 1)
      refine g_istore_n F [(2, .int (J ((nRf z (r) (((z 10 0 0) - (1)) + 1)).1))), (0, .ref (ad 8 (0))), (1, .int (J (r)))] dX8_ask_30 rfl (by decide) rfl ?_
      refine g_iload_n F dX8_ask_31 rfl 0 rfl ?_
      refine g_if_eq 37 F dX8_ask_32 (by omega) rfl (fun c_3 => ?_) (fun c_3 => ?_)
      · skip
        have hq := nRf_0 c_3
        have hRz : Rel z v_27 := by have q := hG_27; rw [hq.2] at q; exact q
        have hp0 := pfU_0 hq.1
        have hp2 : paP z r (z 10 0 0) (z 17 r 0) := by have q := hp0.2.2; rw [Int.sub_add_cancel] at q; exact q
        have hw := hRW (r) (by omega) (by omega)
        have hw2 : -1 ≤ z 17 (r) 0 ∧ z 17 (r) 0 ≤ 60 := by have := hw.1; split at this <;> omega
        have hr6 : -1 ≤ z 17 r 0 ∧ z 17 r 0 ≤ 40 := by have := hw.1; rw [if_pos (by omega)] at this; exact this
        refine g_aload_n F dX8_ask_37 rfl 1 rfl ?_
        refine g_iload_n F dX8_ask_38 rfl 2 rfl ?_
        refine g_callV 1 F (As := [.int (J (r))]) (st := []) (c_X8_fitting l D ad x v_27 z (r) (by omega) (hRz) (by have := hw.1; omega) (fun q q0 q1 => paP_2 (by omega) hp2 q q0 q1)) (gR_8) rfl mk_X8_271 ki_X8_fitting kc_X8_fitting (by decide +kernel) rfl (by decide) dX8_ask_39 rfl (Nat.le_of_ble_eq_true rfl) (pI_k ?_)
        refine g_istore_n F [(3, .int (J (ftU z (r)))), (2, .int (J ((nRf z (r) (((z 10 0 0) - (1)) + 1)).1))), (0, .ref (ad 8 (0))), (1, .int (J (r)))] dX8_ask_42 rfl (by decide) rfl ?_
        have hft : 0 ≤ ftU z r ∧ ftU z r < 2147483648 := bits_31
        refine g_iload_n F dX8_ask_43 rfl 0 rfl ?_
        refine g_if_ne 50 F dX8_ask_44 (by omega) rfl (fun c_4 => ?_) (fun c_4 => ?_)
        · skip
          refine g_iconst F dX8_ask_50 (0) (by decide) ?_
          refine g_istore F [(4, .int (J (0))), (3, .int (J (ftU z (r)))), (2, .int (J ((nRf z (r) (((z 10 0 0) - (1)) + 1)).1))), (0, .ref (ad 8 (0))), (1, .int (J (r)))] dX8_ask_51 (by decide) rfl ?_
          refine g_iconst F dX8_ask_53 (1) (by decide) ?_
          refine g_istore F [(5, .int (J (1))), (4, .int (J (0))), (3, .int (J (ftU z (r)))), (2, .int (J ((nRf z (r) (((z 10 0 0) - (1)) + 1)).1))), (0, .ref (ad 8 (0))), (1, .int (J (r)))] dX8_ask_54 (by decide) rfl ?_
          have L56 : ∀ (N : Nat) (w : gY) (b : Int) (j : Int), 1 ≤ j ∧ j ≤ z 10 0 0 → 0 ≤ b ∧ b < z 10 0 0 → bsN (fun i => gpU z i (ftU z r)) (j - 1).toNat = (b, gpU z b (ftU z r)) → Rel z w → (z 10 0 0 - j).toNat < N → gW Θ l D ad 6 56 [(0, .ref (ad 8 (0))), (3, .int (J (ftU z r))), (4, .int (J (b))), (5, .int (J (j)))] [] x w := by
            intro N
            induction N with
            | zero => intro w b j hj hb2 ha hRw hFu; omega
            | succ N ih56 =>
              intro w b j hj hb2 ha hRw hFu
              refine g_iload F dX8_ask_56 3 rfl ?_
              refine g_aload_n F dX8_ask_58 rfl 0 rfl ?_
              refine gg_Model_men F fk_X8_157 dX8_ask_59 ?_
              refine g_topi (b := z 10 0 0) (hRw.2.1.2.2.2.2.1) ?_
              refine g_icmp_ge 97 F dX8_ask_62 (by omega) (by omega) rfl (fun c_5 => ?_) (fun c_5 => ?_)
              · skip
                refine g_aload_n F dX8_ask_97 rfl 0 rfl ?_
                refine g_aload_n F dX8_ask_98 rfl 0 rfl ?_
                refine g_iload F dX8_ask_99 2 rfl ?_
                refine g_iload_n F dX8_ask_101 rfl 1 rfl ?_
                refine g_callV 2 F (As := [.int (J (b)), .int (J (ftU z r))]) (st := [.ref (ad 8 (0))]) (c_X8_greatestPart l D ad x w z (b) (ftU z r) (hRw.2.1) (hN) (Rel_SB hRw) (by omega) (hft)) (gR_8) rfl mk_X8_277 ki_X8_greatestPart kc_X8_greatestPart (by decide +kernel) rfl (by decide) dX8_ask_102 rfl (Nat.le_of_ble_eq_true rfl) (pH_k (fun v_102 hG_102 => ?_))
                have hRw2 : Rel z v_102 := Rel_ys hRw hG_102
                refine gp_Model_asked F fk_X8_69 dX8_ask_105 ?_
                refine g_iload F dX8_ask_108 2 rfl ?_
                exact g_ireturn F hR dX8_ask_110 (pH_z (by unfold sAsk; first | (rw [tRf_a (by omega)]; rfl) | (rw [tRf_b (by omega) (by omega)]; rfl) | (rw [tRf_c (by omega) (by omega)]; first | (rw [if_pos (by omega)]; done) | (rw [if_neg (by omega), if_pos (by omega)]; done) | (rw [show j = z 10 0 0 by omega] at ha; rw [if_neg (by omega), if_neg (by omega), ha]; done))) (by unfold sAsk; first | (rw [tRf_a (by omega)]; exact hRel) | (rw [tRf_b (by omega) (by omega)]; exact hRel) | (rw [tRf_c (by omega) (by omega)]; first | (rw [if_pos (by omega)]; exact hG_27) | (rw [if_neg (by omega), if_pos (by omega)]; exact hRz) | (rw [show j = z 10 0 0 by omega] at ha; rw [if_neg (by omega), if_neg (by omega), ha]; exact Rel_tell hRw2 _))) rfl)
              · skip
                have hg1 := gpU_r z j (ftU z r)
                have hg2 := gpU_r z b (ftU z r)
                refine g_aload_n F dX8_ask_65 rfl 0 rfl ?_
                refine g_iload F dX8_ask_66 3 rfl ?_
                refine g_iload_n F dX8_ask_68 rfl 1 rfl ?_
                refine g_callV 2 F (As := [.int (J (j)), .int (J (ftU z r))]) (st := []) (c_X8_greatestPart l D ad x w z (j) (ftU z r) (hRw.2.1) (hN) (Rel_SB hRw) (by omega) (hft)) (gR_8) rfl mk_X8_277 ki_X8_greatestPart kc_X8_greatestPart (by decide +kernel) rfl (by decide) dX8_ask_69 rfl (Nat.le_of_ble_eq_true rfl) (pH_k (fun v_69 hG_69 => ?_))
                have hRw2 : Rel z v_69 := Rel_ys hRw hG_69
                refine g_aload_n F dX8_ask_72 rfl 0 rfl ?_
                refine g_iload F dX8_ask_73 2 rfl ?_
                refine g_iload_n F dX8_ask_75 rfl 1 rfl ?_
                refine g_callV 2 F (As := [.int (J (b)), .int (J (ftU z r))]) (st := [.int (J (gpU z (j) (ftU z r)))]) (c_X8_greatestPart l D ad x v_69 z (b) (ftU z r) (hRw2.2.1) (hN) (Rel_SB hRw2) (by omega) (hft)) (gR_8) rfl mk_X8_277 ki_X8_greatestPart kc_X8_greatestPart (by decide +kernel) rfl (by decide) dX8_ask_76 rfl (Nat.le_of_ble_eq_true rfl) (pH_k (fun v_76 hG_76 => ?_))
                have hRw3 : Rel z v_76 := Rel_ys hRw2 hG_76
                refine g_icmp_ge 87 F dX8_ask_79 (by omega) (by omega) rfl (fun c_6 => ?_) (fun c_6 => ?_)
                · skip
                  refine g_iload F dX8_ask_87 2 rfl ?_
                  refine g_istore F [(4, .int (J (b))), (0, .ref (ad 8 (0))), (3, .int (J (ftU z r))), (5, .int (J (j)))] dX8_ask_89 (by decide) rfl ?_
                  refine g_iinc F [(5, .int (J (j + 1))), (4, .int (J (b))), (0, .ref (ad 8 (0))), (3, .int (J (ftU z r)))] 3 rfl dX8_ask_91 (by decide) rfl ?_
                  refine g_goto F 56 dX8_ask_94 rfl ?_
                  refine g_sub [2, 3, 1, 0] (lv' := [(0, .ref (ad 8 (0))), (3, .int (J (ftU z r))), (4, .int (J (b))), (5, .int (J (j + 1)))]) rfl ?_
                  exact ih56 (v_76) (b) (j + 1) (by omega) (by omega) (by rw [bsN_s _ (by omega), ha]; first | (rw [if_pos (by show gpU z j (ftU z r) < gpU z b (ftU z r); omega)]; done) | (rw [if_neg (by show ¬ gpU z j (ftU z r) < gpU z b (ftU z r); omega)]; done)) (hRw3) (by omega)
                · skip
                  refine g_iload F dX8_ask_82 3 rfl ?_
                  refine g_goto F 89 dX8_ask_84 rfl ?_
                  refine g_istore F [(4, .int (J (j))), (0, .ref (ad 8 (0))), (3, .int (J (ftU z r))), (5, .int (J (j)))] dX8_ask_89 (by decide) rfl ?_
                  refine g_iinc F [(5, .int (J (j + 1))), (4, .int (J (j))), (0, .ref (ad 8 (0))), (3, .int (J (ftU z r)))] 3 rfl dX8_ask_91 (by decide) rfl ?_
                  refine g_goto F 56 dX8_ask_94 rfl ?_
                  refine g_sub [2, 3, 1, 0] (lv' := [(0, .ref (ad 8 (0))), (3, .int (J (ftU z r))), (4, .int (J (j))), (5, .int (J (j + 1)))]) rfl ?_
                  exact ih56 (v_76) (j) (j + 1) (by omega) (by omega) (by rw [bsN_s _ (by omega), ha]; first | (rw [if_pos (by show gpU z j (ftU z r) < gpU z b (ftU z r); omega)]; done) | (rw [if_neg (by show ¬ gpU z j (ftU z r) < gpU z b (ftU z r); omega)]; done)) (hRw3) (by omega)
          refine g_sub [4, 2, 1, 0] (lv' := [(0, .ref (ad 8 (0))), (3, .int (J (ftU z (r)))), (4, .int (J (0))), (5, .int (J (1)))]) rfl ?_
          exact L56 _ (v_27) (0) (1) (by omega) (by omega) (rfl) (hRz) (Nat.lt_succ_self _)
        · skip
          refine g_bipush F dX8_ask_47 (-9) (by decide) ?_
          exact g_ireturn F hR dX8_ask_49 (pH_z (by unfold sAsk; first | (rw [tRf_a (by omega)]; rfl) | (rw [tRf_b (by omega) (by omega)]; rfl) | (rw [tRf_c (by omega) (by omega)]; first | (rw [if_pos (by omega)]; done) | (rw [if_neg (by omega), if_pos (by omega)]; done) | (rw [show j = z 10 0 0 by omega] at ha; rw [if_neg (by omega), if_neg (by omega), ha]; done))) (by unfold sAsk; first | (rw [tRf_a (by omega)]; exact hRel) | (rw [tRf_b (by omega) (by omega)]; exact hRel) | (rw [tRf_c (by omega) (by omega)]; first | (rw [if_pos (by omega)]; exact hG_27) | (rw [if_neg (by omega), if_pos (by omega)]; exact hRz) | (rw [show j = z 10 0 0 by omega] at ha; rw [if_neg (by omega), if_neg (by omega), ha]; exact Rel_tell hRw2 _))) rfl)
      · skip
        refine g_iload_n F dX8_ask_35 rfl 0 rfl ?_
        exact g_ireturn F hR dX8_ask_36 (pH_z (by unfold sAsk; first | (rw [tRf_a (by omega)]; rfl) | (rw [tRf_b (by omega) (by omega)]; rfl) | (rw [tRf_c (by omega) (by omega)]; first | (rw [if_pos (by omega)]; done) | (rw [if_neg (by omega), if_pos (by omega)]; done) | (rw [show j = z 10 0 0 by omega] at ha; rw [if_neg (by omega), if_neg (by omega), ha]; done))) (by unfold sAsk; first | (rw [tRf_a (by omega)]; exact hRel) | (rw [tRf_b (by omega) (by omega)]; exact hRel) | (rw [tRf_c (by omega) (by omega)]; first | (rw [if_pos (by omega)]; exact hG_27) | (rw [if_neg (by omega), if_pos (by omega)]; exact hRz) | (rw [show j = z 10 0 0 by omega] at ha; rw [if_neg (by omega), if_neg (by omega), ha]; exact Rel_tell hRw2 _))) rfl)
    · skip
      refine g_bipush F dX8_ask_16 (-4) (by decide) ?_
      exact g_ireturn F hR dX8_ask_18 (pH_z (by unfold sAsk; first | (rw [tRf_a (by omega)]; rfl) | (rw [tRf_b (by omega) (by omega)]; rfl) | (rw [tRf_c (by omega) (by omega)]; first | (rw [if_pos (by omega)]; done) | (rw [if_neg (by omega), if_pos (by omega)]; done) | (rw [show j = z 10 0 0 by omega] at ha; rw [if_neg (by omega), if_neg (by omega), ha]; done))) (by unfold sAsk; first | (rw [tRf_a (by omega)]; exact hRel) | (rw [tRf_b (by omega) (by omega)]; exact hRel) | (rw [tRf_c (by omega) (by omega)]; first | (rw [if_pos (by omega)]; exact hG_27) | (rw [if_neg (by omega), if_pos (by omega)]; exact hRz) | (rw [show j = z 10 0 0 by omega] at ha; rw [if_neg (by omega), if_neg (by omega), ha]; exact Rel_tell hRw2 _))) rfl)
  · skip
    refine g_iconst F dX8_ask_7 (-1) (by decide) ?_
    exact g_ireturn F hR dX8_ask_8 (pH_z (by unfold sAsk; first | (rw [tRf_a (by omega)]; rfl) | (rw [tRf_b (by omega) (by omega)]; rfl) | (rw [tRf_c (by omega) (by omega)]; first | (rw [if_pos (by omega)]; done) | (rw [if_neg (by omega), if_pos (by omega)]; done) | (rw [show j = z 10 0 0 by omega] at ha; rw [if_neg (by omega), if_neg (by omega), ha]; done))) (by unfold sAsk; first | (rw [tRf_a (by omega)]; exact hRel) | (rw [tRf_b (by omega) (by omega)]; exact hRel) | (rw [tRf_c (by omega) (by omega)]; first | (rw [if_pos (by omega)]; exact hG_27) | (rw [if_neg (by omega), if_pos (by omega)]; exact hRz) | (rw [show j = z 10 0 0 by omega] at ha; rw [if_neg (by omega), if_neg (by omega), ha]; exact Rel_tell hRw2 _))) rfl)
