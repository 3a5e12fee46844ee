set_option maxRecDepth 20000 in
theorem c_X1_hasRoomFor (l : Launch) (D : gD) (ad : gA) (x : gX) (y : gY) (d n : Int) (hd : 0 ≤ d ∧ d < 4) (hs : -1 ≤ x 16 d 0 ∧ x 16 d 0 ≤ 40) (hn : 0 ≤ n ∧ n ≤ 40) : gC l D ad 0 yX1_hasRoomFor cX1_hasRoomFor 2 (some .boolean) [.ref (ad 1 (d)), .int (J (n))] x y (pB (x 16 d 0 ≤ 40 - n) (x) (y)) := by
  refine g_met RX1 rfl (by decide +kernel) [(0, .ref (ad 1 (d))), (1, .int (J (n)))] rfl (Nat.le_of_ble_eq_true rfl) (fun Θ F hR => ?_)
  refine g_aload_n F dX1_hasRoomFor_0 rfl 0 rfl ?_
  refine gg_Deeds_size F (by omega) fk_X1_18 dX1_hasRoomFor_1 ?_
  refine g_bipush F dX1_hasRoomFor_4 (40) (by decide) ?_
  refine g_iload_n F dX1_hasRoomFor_6 rfl 1 rfl ?_
  refine g_isub F dX1_hasRoomFor_7 ?_
  refine g_icmp_gt 15 F dX1_hasRoomFor_8 (by omega) (by omega) rfl (fun c_1 => ?_) (fun c_1 => ?_)
  · skip
    refine g_iconst F dX1_hasRoomFor_15 (0) (by decide) ?_
    exact g_zreturn F hR dX1_hasRoomFor_16 (by omega) (pB_i (by split <;> omega) rfl rfl)
  · skip
    refine g_iconst F dX1_hasRoomFor_11 (1) (by decide) ?_
    refine g_goto F 16 dX1_hasRoomFor_12 rfl ?_
    exact g_zreturn F hR dX1_hasRoomFor_16 (by omega) (pB_i (by split <;> omega) rfl rfl)

set_option maxRecDepth 20000 in
theorem c_X1_add (l : Launch) (D : gD) (ad : gA) (x : gX) (y : gY) (d w h : Int) (hd : 0 ≤ d ∧ d < 4) (hs : 0 ≤ x 16 d 0 ∧ x 16 d 0 < 40) : gC l D ad 1 yX1_add cX1_add 3 none [.ref (ad 1 (d)), .int (J (w)), .int (J (h))] x y (pV (xU (xU (xU x 21 d (x 16 d 0) w) 22 d (x 16 d 0) h) 16 d 0 (x 16 d 0 + 1)) (y)) := by
  refine g_met RX1 rfl (by decide +kernel) [(0, .ref (ad 1 (d))), (1, .int (J (w))), (2, .int (J (h)))] rfl (Nat.le_of_ble_eq_true rfl) (fun Θ F hR => ?_)
  refine g_aload_n F dX1_add_0 rfl 0 rfl ?_
  refine g_iconst F dX1_add_1 (1) (by decide) ?_
  refine g_callV 1 F (As := [.int (J (1))]) (st := []) (c_X1_hasRoomFor l D ad x y (d) (1) (by omega) (by omega) (by omega)) (gR_1 (by omega)) rfl mk_X1_22 ki_X1_hasRoomFor kc_X1_hasRoomFor (by decide +kernel) rfl (by decide) dX1_add_2 rfl (Nat.le_of_ble_eq_true rfl) (pB_k ?_)
  refine g_ifb_eq 38 F dX1_add_5 rfl (fun c_1 => ?_) (fun c_1 => ?_)
  · skip
    exfalso; omega
  · skip
    refine g_aload_n F dX1_add_8 rfl 0 rfl ?_
    refine gg_Deeds_whats F (by omega) fk_X1_9 dX1_add_9 ?_
    refine g_aload_n F dX1_add_12 rfl 0 rfl ?_
    refine gg_Deeds_size F (by omega) fk_X1_18 dX1_add_13 ?_
    refine g_iload_n F dX1_add_16 rfl 1 rfl ?_
    refine gs_21 F (by omega) (by omega) dX1_add_17 ?_
    refine g_aload_n F dX1_add_18 rfl 0 rfl ?_
    refine gg_Deeds_hows F (by omega) fk_X1_15 dX1_add_19 ?_
    refine g_aload_n F dX1_add_22 rfl 0 rfl ?_
    refine gg_Deeds_size F (by omega) fk_X1_18 dX1_add_23 ?_
    refine g_topi (b := x 16 (d) (0)) (by simp [xU]) ?_
    refine g_iload_n F dX1_add_26 rfl 2 rfl ?_
    refine gs_22 F (by omega) (by omega) dX1_add_27 ?_
    refine g_aload_n F dX1_add_28 rfl 0 rfl ?_
    refine g_dup F dX1_add_29 rfl ?_
    refine gg_Deeds_size F (by omega) fk_X1_18 dX1_add_30 ?_
    refine g_topi (b := x 16 (d) (0)) (by simp [xU]) ?_
    refine g_iconst F dX1_add_33 (1) (by decide) ?_
    refine g_iadd F dX1_add_34 ?_
    refine gp_Deeds_size F (by omega) fk_X1_18 dX1_add_35 ?_
    exact g_vreturn F hR dX1_add_38 (pV_i (by rfl) rfl)

set_option maxRecDepth 20000 in
theorem c_X1_become (l : Launch) (D : gD) (ad : gA) (x : gX) (y : gY) (d e : Int) (hd : 0 ≤ d ∧ d < 4) (he : 0 ≤ e ∧ e < 4) (hde : d ≠ e) (hs : 0 ≤ x 16 e 0 ∧ x 16 e 0 ≤ 40) : gC l D ad 0 yX1_become cX1_become 3 none [.ref (ad 1 (d)), .ref (ad 1 (e))] x y (pV (xU (bcM x d e (x 16 e 0)) 16 d 0 (x 16 e 0)) (y)) := by
  refine g_met RX1 rfl (by decide +kernel) [(0, .ref (ad 1 (d))), (1, .ref (ad 1 (e)))] rfl (Nat.le_of_ble_eq_true rfl) (fun Θ F hR => ?_)
  refine g_iconst F dX1_become_0 (0) (by decide) ?_
  refine g_istore_n F [(2, .int (J (0))), (0, .ref (ad 1 (d))), (1, .ref (ad 1 (e)))] dX1_become_1 rfl (by decide) rfl ?_
  have L2 : ∀ (N : Nat) (j : Int), 0 ≤ j ∧ j ≤ x 16 e 0 → (x 16 e 0 - j).toNat < N → gW Θ l D ad 3 2 [(0, .ref (ad 1 (d))), (1, .ref (ad 1 (e))), (2, .int (J (j)))] [] (bcM x d e j) y := by
    intro N
    induction N with
    | zero => intro j hj hFu; omega
    | succ N ih2 =>
      intro j hj hFu
      refine g_iload_n F dX1_become_2 rfl 2 rfl ?_
      refine g_aload_n F dX1_become_3 rfl 1 rfl ?_
      refine gg_Deeds_size F (by omega) fk_X1_18 dX1_become_4 ?_
      refine g_topi (b := x 16 e 0) (by simp [bcM]) ?_
      refine g_icmp_ge 40 F dX1_become_7 (by omega) (by omega) rfl (fun c_1 => ?_) (fun c_1 => ?_)
      · skip
        refine g_aload_n F dX1_become_40 rfl 0 rfl ?_
        refine g_aload_n F dX1_become_41 rfl 1 rfl ?_
        refine gg_Deeds_size F (by omega) fk_X1_18 dX1_become_42 ?_
        refine g_topi (b := x 16 e 0) (by simp [bcM]) ?_
        refine gp_Deeds_size F (by omega) fk_X1_18 dX1_become_45 ?_
        exact g_vreturn F hR dX1_become_48 (pV_i (by rw [show j = x 16 e 0 by omega]) rfl)
      · skip
        refine g_aload_n F dX1_become_10 rfl 0 rfl ?_
        refine gg_Deeds_whats F (by omega) fk_X1_9 dX1_become_11 ?_
        refine g_iload_n F dX1_become_14 rfl 2 rfl ?_
        refine g_aload_n F dX1_become_15 rfl 1 rfl ?_
        refine gg_Deeds_whats F (by omega) fk_X1_9 dX1_become_16 ?_
        refine g_iload_n F dX1_become_19 rfl 2 rfl ?_
        refine ga_21 F (by omega) (by omega) dX1_become_20 ?_
        refine g_topi (b := x 21 e j) (bcM_e x hde 21) ?_
        refine gs_21 F (by omega) (by omega) dX1_become_21 ?_
        refine g_aload_n F dX1_become_22 rfl 0 rfl ?_
        refine gg_Deeds_hows F (by omega) fk_X1_15 dX1_become_23 ?_
        refine g_iload_n F dX1_become_26 rfl 2 rfl ?_
        refine g_aload_n F dX1_become_27 rfl 1 rfl ?_
        refine gg_Deeds_hows F (by omega) fk_X1_15 dX1_become_28 ?_
        refine g_iload_n F dX1_become_31 rfl 2 rfl ?_
        refine ga_22 F (by omega) (by omega) dX1_become_32 ?_
        refine g_topi (b := (bcM x d e j) 22 (e) (j)) (by simp [xU]) ?_
        refine g_topi (b := x 22 e j) (bcM_e x hde 22) ?_
        refine gs_22 F (by omega) (by omega) dX1_become_33 ?_
        refine g_iinc F [(2, .int (J (j + 1))), (0, .ref (ad 1 (d))), (1, .ref (ad 1 (e)))] 2 rfl dX1_become_34 (by decide) rfl ?_
        refine g_goto F 2 dX1_become_37 rfl ?_
        refine g_sub [1, 2, 0] (lv' := [(0, .ref (ad 1 (d))), (1, .ref (ad 1 (e))), (2, .int (J (j + 1)))]) rfl ?_
        exact gW_eq (ih2 (j + 1) (by omega) (by omega)) rfl rfl rfl (bcM_s x hde (by omega)) (rfl)
  refine g_sub [1, 2, 0] (lv' := [(0, .ref (ad 1 (d))), (1, .ref (ad 1 (e))), (2, .int (J (0)))]) rfl ?_
  exact gW_eq (L2 _ (0) (by omega) (Nat.lt_succ_self _)) rfl rfl rfl ((bcM_0 x d e).symm) (rfl)

set_option maxRecDepth 20000 in
theorem c_X6_isMissing (l : Launch) (D : gD) (ad : gA) (x : gX) (y : gY) (r : Int) (hr : 0 ≤ r ∧ r < 10) (hs : -1 ≤ x 17 r 0 ∧ x 17 r 0 ≤ (if r < 6 then 40 else 60)) : gC l D ad 0 yX6_isMissing cX6_isMissing 1 (some .boolean) [.ref (ad 6 (r))] x y (pB (x 17 r 0 = -1) (x) (y)) := by
  refine g_met RX6 rfl (by decide +kernel) [(0, .ref (ad 6 (r)))] rfl (Nat.le_of_ble_eq_true rfl) (fun Θ F hR => ?_)
  have hs2 : x 17 r 0 ≤ 60 := by split at hs <;> omega
  refine g_aload_n F dX6_isMissing_0 rfl 0 rfl ?_
  refine gg_Row_size F (by omega) fk_X6_9 dX6_isMissing_1 ?_
  refine g_iconst F dX6_isMissing_4 (-1) (by decide) ?_
  refine g_icmp_ne 12 F dX6_isMissing_5 (by omega) (by decide) rfl (fun c_1 => ?_) (fun c_1 => ?_)
  · skip
    refine g_iconst F dX6_isMissing_12 (0) (by decide) ?_
    exact g_zreturn F hR dX6_isMissing_13 (by omega) (pB_i (by split <;> omega) rfl rfl)
  · skip
    refine g_iconst F dX6_isMissing_8 (1) (by decide) ?_
    refine g_goto F 13 dX6_isMissing_9 rfl ?_
    exact g_zreturn F hR dX6_isMissing_13 (by omega) (pB_i (by split <;> omega) rfl rfl)

set_option maxRecDepth 20000 in
theorem c_X6_layOut (l : Launch) (D : gD) (ad : gA) (x : gX) (y : gY) (r n v : Int) (hr : 0 ≤ r ∧ r < 10) (hn : 0 ≤ n ∧ n ≤ (if r < 6 then 40 else 60)) : gC l D ad 0 yX6_layOut cX6_layOut 4 none [.ref (ad 6 (r)), .int (J (n)), .int (J (v))] x y (pV (xU (flM x r v n) 17 r 0 n) (y)) := by
  refine g_met RX6 rfl (by decide +kernel) [(0, .ref (ad 6 (r))), (1, .int (J (n))), (2, .int (J (v)))] rfl (Nat.le_of_ble_eq_true rfl) (fun Θ F hR => ?_)
  refine g_iconst F dX6_layOut_0 (0) (by decide) ?_
  refine g_istore_n F [(3, .int (J (0))), (0, .ref (ad 6 (r))), (1, .int (J (n))), (2, .int (J (v)))] dX6_layOut_1 rfl (by decide) rfl ?_
  have L2 : ∀ (N : Nat) (j : Int), 0 ≤ j ∧ j ≤ n → (n - j).toNat < N → gW Θ l D ad 4 2 [(0, .ref (ad 6 (r))), (1, .int (J (n))), (2, .int (J (v))), (3, .int (J (j)))] [] (flM x r v j) y := by
    intro N
    induction N with
    | zero => intro j hj hFu; omega
    | succ N ih2 =>
      intro j hj hFu
      refine g_iload_n F dX6_layOut_2 rfl 3 rfl ?_
      refine g_iload_n F dX6_layOut_3 rfl 1 rfl ?_
      refine g_icmp_ge 29 F dX6_layOut_4 (by omega) (by omega) rfl (fun c_1 => ?_) (fun c_1 => ?_)
      · skip
        refine g_aload_n F dX6_layOut_29 rfl 0 rfl ?_
        refine g_iload_n F dX6_layOut_30 rfl 1 rfl ?_
        refine gp_Row_size F (by omega) fk_X6_9 dX6_layOut_31 ?_
        exact g_vreturn F hR dX6_layOut_34 (pV_i (by rw [show j = n by omega]) rfl)
      · skip
        refine g_iload_n F dX6_layOut_7 rfl 3 rfl ?_
        refine g_aload_n F dX6_layOut_8 rfl 0 rfl ?_
        refine gg_Row_places F (by omega) fk_X6_15 dX6_layOut_9 ?_
        refine gl_20 F (by omega) dX6_layOut_12 ?_
        refine g_icmp_ge 29 F dX6_layOut_13 (by omega) (by omega) rfl (fun c_2 => ?_) (fun c_2 => ?_)
        · skip
          refine g_aload_n F dX6_layOut_29 rfl 0 rfl ?_
          refine g_iload_n F dX6_layOut_30 rfl 1 rfl ?_
          refine gp_Row_size F (by omega) fk_X6_9 dX6_layOut_31 ?_
          exact g_vreturn F hR dX6_layOut_34 (pV_i (by rw [show j = n by omega]) rfl)
        · skip
          refine g_aload_n F dX6_layOut_16 rfl 0 rfl ?_
          refine gg_Row_places F (by omega) fk_X6_15 dX6_layOut_17 ?_
          refine g_iload_n F dX6_layOut_20 rfl 3 rfl ?_
          refine g_iload_n F dX6_layOut_21 rfl 2 rfl ?_
          refine gs_20 F (by omega) (by omega) dX6_layOut_22 ?_
          refine g_iinc F [(3, .int (J (j + 1))), (0, .ref (ad 6 (r))), (1, .int (J (n))), (2, .int (J (v)))] 3 rfl dX6_layOut_23 (by decide) rfl ?_
          refine g_goto F 2 dX6_layOut_26 rfl ?_
          refine g_sub [1, 2, 3, 0] (lv' := [(0, .ref (ad 6 (r))), (1, .int (J (n))), (2, .int (J (v))), (3, .int (J (j + 1)))]) rfl ?_
          exact gW_eq (ih2 (j + 1) (by omega) (by omega)) rfl rfl rfl (flM_s x (by omega)) (rfl)
  refine g_sub [1, 2, 3, 0] (lv' := [(0, .ref (ad 6 (r))), (1, .int (J (n))), (2, .int (J (v))), (3, .int (J (0)))]) rfl ?_
  exact gW_eq (L2 _ (0) (by omega) (Nat.lt_succ_self _)) rfl rfl rfl ((flM_0 x r v).symm) (rfl)

set_option maxRecDepth 20000 in
theorem c_X6_digestOnto (l : Launch) (D : gD) (ad : gA) (x : gX) (y : gY) (r h : Int) (hr : 0 ≤ r ∧ r < 10) (hs : -1 ≤ x 17 r 0 ∧ x 17 r 0 ≤ (if r < 6 then 40 else 60)) (hx : ∀ j : Int, i32 (x 20 r j)) : gC l D ad 0 yX6_digestOnto cX6_digestOnto 6 (some .long) [.ref (ad 6 (r)), .long (Lg (h))] x y (pL (dgZ (fun q => x 20 r q) (31 * h + x 17 r 0) (x 17 r 0)) (x) (y)) := by
  refine g_met RX6 rfl (by decide +kernel) [(0, .ref (ad 6 (r))), (1, .long (Lg (h)))] rfl (Nat.le_of_ble_eq_true rfl) (fun Θ F hR => ?_)
  have hs2 : x 17 r 0 ≤ 60 := by split at hs <;> omega
  refine g_ldc2 F ck_X6_19 dX6_digestOnto_0 (31) (by decide) ?_
  refine g_lload_n F dX6_digestOnto_3 rfl 1 rfl ?_
  refine g_lmul F dX6_digestOnto_4 ?_
  refine g_aload_n F dX6_digestOnto_5 rfl 0 rfl ?_
  refine gg_Row_size F (by omega) fk_X6_9 dX6_digestOnto_6 ?_
  refine g_i2l F dX6_digestOnto_9 (by omega) ?_
  refine g_ladd F dX6_digestOnto_10 ?_
  refine g_lstore_n F [(3, .long (Lg (((31) * (h)) + (x 17 (r) (0))))), (0, .ref (ad 6 (r))), (1, .long (Lg (h)))] dX6_digestOnto_11 rfl (by decide) rfl ?_
  refine g_iconst F dX6_digestOnto_12 (0) (by decide) ?_
  refine g_istore F [(5, .int (J (0))), (3, .long (Lg (((31) * (h)) + (x 17 (r) (0))))), (0, .ref (ad 6 (r))), (1, .long (Lg (h)))] dX6_digestOnto_13 (by decide) rfl ?_
  have L15 : ∀ (N : Nat) (a : Int) (j : Int), 0 ≤ j ∧ (j ≤ x 17 r 0 ∨ j = 0) → a = dgZ (fun q => x 20 r q) (31 * h + x 17 r 0) j → (x 17 r 0 - j).toNat < N → gW Θ l D ad 6 15 [(0, .ref (ad 6 (r))), (3, .long (Lg (a))), (5, .int (J (j)))] [] x y := by
    intro N
    induction N with
    | zero => intro a j hj ha hFu; omega
    | succ N ih15 =>
      intro a j hj ha hFu
      refine g_iload F dX6_digestOnto_15 2 rfl ?_
      refine g_aload_n F dX6_digestOnto_17 rfl 0 rfl ?_
      refine gg_Row_size F (by omega) fk_X6_9 dX6_digestOnto_18 ?_
      refine g_icmp_ge 45 F dX6_digestOnto_21 (by omega) (by omega) rfl (fun c_1 => ?_) (fun c_1 => ?_)
      · skip
        refine g_lload_n F dX6_digestOnto_45 rfl 1 rfl ?_
        exact g_lreturn F hR dX6_digestOnto_46 (pL_i (by rcases (show j = x 17 r 0 ∨ (j = 0 ∧ x 17 r 0 < 0) by omega) with q | q; (rw [ha, q]); (rw [ha, q.1]; unfold dgZ; rw [show (x 17 r 0).toNat = 0 by omega]; rfl)) rfl rfl)
      · skip
        refine g_ldc2 F ck_X6_19 dX6_digestOnto_24 (31) (by decide) ?_
        refine g_lload_n F dX6_digestOnto_27 rfl 1 rfl ?_
        refine g_lmul F dX6_digestOnto_28 ?_
        refine g_aload_n F dX6_digestOnto_29 rfl 0 rfl ?_
        refine gg_Row_places F (by omega) fk_X6_15 dX6_digestOnto_30 ?_
        refine g_iload F dX6_digestOnto_33 2 rfl ?_
        refine ga_20 F (by omega) (by omega) dX6_digestOnto_35 ?_
        refine g_i2l F dX6_digestOnto_36 (hx j) ?_
        refine g_ladd F dX6_digestOnto_37 ?_
        refine g_lstore_n F [(3, .long (Lg (((31) * (a)) + (x 20 (r) (j))))), (0, .ref (ad 6 (r))), (5, .int (J (j)))] dX6_digestOnto_38 rfl (by decide) rfl ?_
        refine g_iinc F [(5, .int (J (j + 1))), (3, .long (Lg (((31) * (a)) + (x 20 (r) (j))))), (0, .ref (ad 6 (r)))] 2 rfl dX6_digestOnto_39 (by decide) rfl ?_
        refine g_goto F 15 dX6_digestOnto_42 rfl ?_
        refine g_sub [2, 1, 0] (lv' := [(0, .ref (ad 6 (r))), (3, .long (Lg (((31) * (a)) + (x 20 (r) (j))))), (5, .int (J (j + 1)))]) rfl ?_
        exact ih15 (((31) * (a)) + (x 20 (r) (j))) (j + 1) (by omega) (by rw [dgZ_s _ _ (by omega), ← ha]) (by omega)
  refine g_sub [2, 1, 0] (lv' := [(0, .ref (ad 6 (r))), (3, .long (Lg (((31) * (h)) + (x 17 (r) (0))))), (5, .int (J (0)))]) rfl ?_
  exact L15 _ (((31) * (h)) + (x 17 (r) (0))) (0) (by omega) (rfl) (Nat.lt_succ_self _)

set_option maxRecDepth 20000 in
theorem c_X0_keptHeat (l : Launch) (D : gD) (ad : gA) (x : gX) (y : gY) (h : Int) (hh : -1000 ≤ h ∧ h ≤ 1000) : gC l D ad 1 yX0_keptHeat cX0_keptHeat 1 (some .int) [.int (J (h))] x y (pI (kH h) (x) (y)) := by
  refine g_met RX0 rfl (by decide +kernel) [(0, .int (J (h)))] rfl (Nat.le_of_ble_eq_true rfl) (fun Θ F hR => ?_)
  refine g_iconst F dX0_keptHeat_0 (0) (by decide) ?_
  refine g_bipush F dX0_keptHeat_1 (30) (by decide) ?_
  refine g_iload_n F dX0_keptHeat_3 rfl 0 rfl ?_
  refine g_min F mk_X0_132 (by decide) (by decide) (by omega) dX0_keptHeat_4 (Nat.le_of_ble_eq_true rfl) ?_
  refine g_max F mk_X0_138 (by decide) (by decide) (by omega) dX0_keptHeat_7 (Nat.le_of_ble_eq_true rfl) ?_
  exact g_ireturn F hR dX0_keptHeat_10 (pI_i (by rfl) rfl rfl)

set_option maxRecDepth 20000 in
theorem c_X0_heatBehind (l : Launch) (D : gD) (ad : gA) (x : gX) (y : gY) (v c a : Int) (hI : IOK x) (hv : -9 ≤ v ∧ v ≤ 2) (hc : 0 ≤ c ∧ c ≤ 100) (ha : 0 ≤ a ∧ a ≤ 100) : gC l D ad 2 yX0_heatBehind cX0_heatBehind 4 (some .int) [.ref (ad 0 (0)), .int (J (v)), .int (J (c)), .int (J (a))] x y (pI (sBeh (x 14 0 0) v c a) (x) (y)) := by
  refine g_met RX0 rfl (by decide +kernel) [(0, .ref (ad 0 (0))), (1, .int (J (v))), (2, .int (J (c))), (3, .int (J (a)))] rfl (Nat.le_of_ble_eq_true rfl) (fun Θ F hR => ?_)
  refine g_iload_n F dX0_heatBehind_0 rfl 1 rfl ?_
  refine g_iconst F dX0_heatBehind_1 (1) (by decide) ?_
  refine g_icmp_ne 22 F dX0_heatBehind_2 (by omega) (by decide) rfl (fun c_1 => ?_) (fun c_1 => ?_)
  · skip
    refine g_iload_n F dX0_heatBehind_22 rfl 3 rfl ?_
    exact g_ireturn F hR dX0_heatBehind_23 (pI_i (by unfold sBeh; split <;> first | rfl | omega) rfl rfl)
  · skip
    refine g_iload_n F dX0_heatBehind_5 rfl 2 rfl ?_
    refine g_aload_n F dX0_heatBehind_6 rfl 0 rfl ?_
    refine gg_Court_king F fk_X0_50 dX0_heatBehind_7 ?_
    refine g_icmp_lt 22 F dX0_heatBehind_10 (by omega) (by omega) rfl (fun c_2 => ?_) (fun c_2 => ?_)
    · skip
      refine g_iload_n F dX0_heatBehind_22 rfl 3 rfl ?_
      exact g_ireturn F hR dX0_heatBehind_23 (pI_i (by unfold sBeh; split <;> first | rfl | omega) rfl rfl)
    · skip
      refine g_iload_n F dX0_heatBehind_13 rfl 3 rfl ?_
      refine g_iconst F dX0_heatBehind_14 (5) (by decide) ?_
      refine g_iadd F dX0_heatBehind_15 ?_
      refine g_callS 1 F (As := [.int (J ((a) + (5)))]) (st := []) (c_X0_keptHeat l D ad x y ((a) + (5)) (by omega)) rfl mk_X0_112 ki_X0_keptHeat kc_X0_keptHeat (by decide +kernel) rfl (by decide) dX0_heatBehind_16 rfl (Nat.le_of_ble_eq_true rfl) (pI_k ?_)
      refine g_goto F 23 dX0_heatBehind_19 rfl ?_
      exact g_ireturn F hR dX0_heatBehind_23 (pI_i (by unfold sBeh; split <;> first | rfl | omega) rfl rfl)

set_option maxRecDepth 20000 in
theorem c_X0_detail (l : Launch) (D : gD) (ad : gA) (x : gX) (y : gY) (i w : Int) (hi : 0 ≤ i ∧ i < 7) (hN : NOK x) (hm : MOK x i) (hw : 0 ≤ w ∧ w ≤ 8) : gC l D ad 3 yX0_detail cX0_detail 3 (some .int) [.ref (ad 0 (0)), .ref (ad 3 (i)), .int (J (w))] x y (pI (dU x i w) (x) (y)) := by
  refine g_met RX0 rfl (by decide +kernel) [(0, .ref (ad 0 (0))), (1, .ref (ad 3 (i))), (2, .int (J (w)))] rfl (Nat.le_of_ble_eq_true rfl) (fun Θ F hR => ?_)
  have r1 := lU_r hN.1 hm (h := x 15 0 0) (by omega)
  refine g_iload_n F dX0_detail_0 rfl 2 rfl ?_
  have rs_1 : i32 (w) := (by omega)
  rcases (show w = 0 ∨ w = 1 ∨ w = 2 ∨ w = 3 ∨ w = 4 ∨ w = 5 ∨ w = 6 ∨ w = 7 ∨ (w ≠ 0 ∧ w ≠ 1 ∧ w ≠ 2 ∧ w ≠ 3 ∧ w ≠ 4 ∧ w ≠ 5 ∧ w ≠ 6 ∧ w ≠ 7) by omega) with s_1 | s_1 | s_1 | s_1 | s_1 | s_1 | s_1 | s_1 | s_1
  · skip
    refine g_switch F 48 dX0_detail_1 rs_1 (by omega) (by omega) (by rw [s_1]; rfl) rfl ?_
    refine g_aload_n F dX0_detail_48 rfl 1 rfl ?_
    refine ggN_Man_kind F (by omega) fk_X0_66 dX0_detail_49 ?_
    exact g_ireturn F hR dX0_detail_52 (pI_i (by unfold dU; (repeat' split) <;> first | rfl | omega) rfl rfl)
  · skip
    refine g_switch F 53 dX0_detail_1 rs_1 (by omega) (by omega) (by rw [s_1]; rfl) rfl ?_
    refine g_aload_n F dX0_detail_53 rfl 1 rfl ?_
    refine ggN_Man_guilt F (by omega) fk_X0_69 dX0_detail_54 ?_
    exact g_ireturn F hR dX0_detail_57 (pI_i (by unfold dU; (repeat' split) <;> first | rfl | omega) rfl rfl)
  · skip
    refine g_switch F 58 dX0_detail_1 rs_1 (by omega) (by omega) (by rw [s_1]; rfl) rfl ?_
    refine g_aload_n F dX0_detail_58 rfl 1 rfl ?_
    refine ggN_Man_belief F (by omega) fk_X0_72 dX0_detail_59 ?_
    exact g_ireturn F hR dX0_detail_62 (pI_i (by unfold dU; (repeat' split) <;> first | rfl | omega) rfl rfl)
  · skip
    refine g_switch F 63 dX0_detail_1 rs_1 (by omega) (by omega) (by rw [s_1]; rfl) rfl ?_
    refine g_aload_n F dX0_detail_63 rfl 1 rfl ?_
    refine g_callV 0 F (As := []) (st := []) (c_X3_hardness l D ad x y (i) (by omega) (by omega)) (gR_3 (by omega)) rfl mk_X0_75 ki_X3_hardness kc_X3_hardness (by decide +kernel) rfl (by decide) dX0_detail_64 rfl (Nat.le_of_ble_eq_true rfl) (pI_k ?_)
    exact g_ireturn F hR dX0_detail_67 (pI_i (by unfold dU; (repeat' split) <;> first | rfl | omega) rfl rfl)
  · skip
    refine g_switch F 68 dX0_detail_1 rs_1 (by omega) (by omega) (by rw [s_1]; rfl) rfl ?_
    refine g_aload_n F dX0_detail_68 rfl 0 rfl ?_
    refine g_aload_n F dX0_detail_69 rfl 1 rfl ?_
    refine g_aload_n F dX0_detail_70 rfl 0 rfl ?_
    refine gg_Court_heat F fk_X0_31 dX0_detail_71 ?_
    refine g_callV 2 F (As := [.ref (ad 3 (i)), .int (J (x 15 (0) (0)))]) (st := []) (c_X0_burn l D ad x y (i) (x 15 (0) (0)) (by omega) (hN.1) (by omega) (by omega)) (gR_0) rfl mk_X0_79 ki_X0_burn kc_X0_burn (by decide +kernel) rfl (by decide) dX0_detail_74 rfl (Nat.le_of_ble_eq_true rfl) (pI_k ?_)
    exact g_ireturn F hR dX0_detail_77 (pI_i (by unfold dU; (repeat' split) <;> first | rfl | omega) rfl rfl)
  · skip
    refine g_switch F 78 dX0_detail_1 rs_1 (by omega) (by omega) (by rw [s_1]; rfl) rfl ?_
    refine g_aload_n F dX0_detail_78 rfl 1 rfl ?_
    refine g_aload_n F dX0_detail_79 rfl 0 rfl ?_
    refine gg_Court_heat F fk_X0_31 dX0_detail_80 ?_
    refine g_callV 1 F (As := [.int (J (x 15 (0) (0)))]) (st := []) (c_X3_appears l D ad x y (i) (x 15 (0) (0)) (by omega) (by omega) (by omega)) (gR_3 (by omega)) rfl mk_X0_83 ki_X3_appears kc_X3_appears (by decide +kernel) rfl (by decide) dX0_detail_83 rfl (Nat.le_of_ble_eq_true rfl) (pB_k ?_)
    refine g_ifb_eq 93 F dX0_detail_86 rfl (fun c_2 => ?_) (fun c_2 => ?_)
    · skip
      refine g_iconst F dX0_detail_93 (0) (by decide) ?_
      exact g_ireturn F hR dX0_detail_94 (pI_i (by unfold dU; (repeat' split) <;> first | rfl | omega) rfl rfl)
    · skip
      refine g_iconst F dX0_detail_89 (1) (by decide) ?_
      refine g_goto F 94 dX0_detail_90 rfl ?_
      exact g_ireturn F hR dX0_detail_94 (pI_i (by unfold dU; (repeat' split) <;> first | rfl | omega) rfl rfl)
  · skip
    refine g_switch F 95 dX0_detail_1 rs_1 (by omega) (by omega) (by rw [s_1]; rfl) rfl ?_
    refine g_aload_n F dX0_detail_95 rfl 0 rfl ?_
    refine g_aload_n F dX0_detail_96 rfl 1 rfl ?_
    refine g_aload_n F dX0_detail_97 rfl 0 rfl ?_
    refine gg_Court_heat F fk_X0_31 dX0_detail_98 ?_
    refine g_callV 2 F (As := [.ref (ad 3 (i)), .int (J (x 15 (0) (0)))]) (st := []) (c_X0_lacking l D ad x y (i) (x 15 (0) (0)) (by omega) (hN.1) (by omega) (by omega)) (gR_0) rfl mk_X0_87 ki_X0_lacking kc_X0_lacking (by decide +kernel) rfl (by decide) dX0_detail_101 rfl (Nat.le_of_ble_eq_true rfl) (pI_k ?_)
    refine g_if_gt 111 F dX0_detail_104 (by omega) rfl (fun c_3 => ?_) (fun c_3 => ?_)
    · skip
      refine g_iconst F dX0_detail_111 (0) (by decide) ?_
      exact g_ireturn F hR dX0_detail_112 (pI_i (by unfold dU; (repeat' split) <;> first | rfl | omega) rfl rfl)
    · skip
      refine g_iconst F dX0_detail_107 (1) (by decide) ?_
      refine g_goto F 112 dX0_detail_108 rfl ?_
      exact g_ireturn F hR dX0_detail_112 (pI_i (by unfold dU; (repeat' split) <;> first | rfl | omega) rfl rfl)
  · skip
    refine g_switch F 113 dX0_detail_1 rs_1 (by omega) (by omega) (by rw [s_1]; rfl) rfl ?_
    refine g_aload_n F dX0_detail_113 rfl 1 rfl ?_
    refine ggN_Man_salve F (by omega) fk_X0_90 dX0_detail_114 ?_
    exact g_ireturn F hR dX0_detail_117 (pI_i (by unfold dU; (repeat' split) <;> first | rfl | omega) rfl rfl)
  · skip
    refine g_switchD F 118 dX0_detail_1 rs_1 (by omega) rfl ?_
    refine g_aload_n F dX0_detail_118 rfl 1 rfl ?_
    refine ggN_Man_verdict F (by omega) fk_X0_93 dX0_detail_119 ?_
    exact g_ireturn F hR dX0_detail_122 (pI_i (by unfold dU; (repeat' split) <;> first | rfl | omega) rfl rfl)

set_option maxRecDepth 20000 in
theorem c_X0_mustBeCleared (l : Launch) (D : gD) (ad : gA) (x : gX) (y : gY) (i : Int) (hi : 0 ≤ i ∧ i < 7) (hN : NOK x) (hm : MOK x i) : gC l D ad 2 yX0_mustBeCleared cX0_mustBeCleared 2 (some .boolean) [.ref (ad 0 (0)), .ref (ad 3 (i))] x y (pB (mbU x i) (x) (y)) := by
  refine g_met RX0 rfl (by decide +kernel) [(0, .ref (ad 0 (0))), (1, .ref (ad 3 (i)))] rfl (Nat.le_of_ble_eq_true rfl) (fun Θ F hR => ?_)
  refine g_aload_n F dX0_mustBeCleared_0 rfl 1 rfl ?_
  refine g_callV 0 F (As := []) (st := []) (c_X3_isTried l D ad x y (i) (by omega) (by omega)) (gR_3 (by omega)) rfl mk_X0_144 ki_X3_isTried kc_X3_isTried (by decide +kernel) rfl (by decide) dX0_mustBeCleared_1 rfl (Nat.le_of_ble_eq_true rfl) (pB_k ?_)
  refine g_ifb_ne 29 F dX0_mustBeCleared_4 rfl (fun c_1 => ?_) (fun c_1 => ?_)
  · skip
    refine g_iconst F dX0_mustBeCleared_29 (0) (by decide) ?_
    exact g_zreturn F hR dX0_mustBeCleared_30 (by omega) (pB_i (by split <;> omega) rfl rfl)
  · skip
    refine g_aload_n F dX0_mustBeCleared_7 rfl 1 rfl ?_
    refine ggN_Man_guilt F (by omega) fk_X0_69 dX0_mustBeCleared_8 ?_
    refine g_if_ne 29 F dX0_mustBeCleared_11 (by omega) rfl (fun c_2 => ?_) (fun c_2 => ?_)
    · skip
      refine g_iconst F dX0_mustBeCleared_29 (0) (by decide) ?_
      exact g_zreturn F hR dX0_mustBeCleared_30 (by omega) (pB_i (by split <;> omega) rfl rfl)
    · skip
      refine g_aload_n F dX0_mustBeCleared_14 rfl 1 rfl ?_
      refine g_aload_n F dX0_mustBeCleared_15 rfl 0 rfl ?_
      refine gg_Court_heat F fk_X0_31 dX0_mustBeCleared_16 ?_
      refine g_callV 1 F (As := [.int (J (x 15 (0) (0)))]) (st := []) (c_X3_appears l D ad x y (i) (x 15 (0) (0)) (by omega) (by omega) (by omega)) (gR_3 (by omega)) rfl mk_X0_83 ki_X3_appears kc_X3_appears (by decide +kernel) rfl (by decide) dX0_mustBeCleared_19 rfl (Nat.le_of_ble_eq_true rfl) (pB_k ?_)
      refine g_ifb_eq 29 F dX0_mustBeCleared_22 rfl (fun c_3 => ?_) (fun c_3 => ?_)
      · skip
        refine g_iconst F dX0_mustBeCleared_29 (0) (by decide) ?_
        exact g_zreturn F hR dX0_mustBeCleared_30 (by omega) (pB_i (by split <;> omega) rfl rfl)
      · skip
        refine g_iconst F dX0_mustBeCleared_25 (1) (by decide) ?_
        refine g_goto F 30 dX0_mustBeCleared_26 rfl ?_
        exact g_zreturn F hR dX0_mustBeCleared_30 (by omega) (pB_i (by split <;> omega) rfl rfl)

set_option maxRecDepth 20000 in
theorem c_X0_salveNeeded (l : Launch) (D : gD) (ad : gA) (x : gX) (y : gY) (i : Int) (hi : 0 ≤ i ∧ i < 7) (hN : NOK x) (hm : MOK x i) : gC l D ad 3 yX0_salveNeeded cX0_salveNeeded 2 (some .int) [.ref (ad 0 (0)), .ref (ad 3 (i))] x y (pI (snU x i) (x) (y)) := by
  refine g_met RX0 rfl (by decide +kernel) [(0, .ref (ad 0 (0))), (1, .ref (ad 3 (i)))] rfl (Nat.le_of_ble_eq_true rfl) (fun Θ F hR => ?_)
  have r1 := lU_r hN.1 hm (h := x 15 0 0) (by omega)
  have r2 := tdiv2_r (a := lU x i (x 15 0 0) + 1) (by omega)
  refine g_iconst F dX0_salveNeeded_0 (0) (by decide) ?_
  refine g_aload_n F dX0_salveNeeded_1 rfl 0 rfl ?_
  refine g_aload_n F dX0_salveNeeded_2 rfl 1 rfl ?_
  refine g_aload_n F dX0_salveNeeded_3 rfl 0 rfl ?_
  refine gg_Court_heat F fk_X0_31 dX0_salveNeeded_4 ?_
  refine g_callV 2 F (As := [.ref (ad 3 (i)), .int (J (x 15 (0) (0)))]) (st := [.int (J (0))]) (c_X0_lacking l D ad x y (i) (x 15 (0) (0)) (by omega) (hN.1) (by omega) (by omega)) (gR_0) rfl mk_X0_87 ki_X0_lacking kc_X0_lacking (by decide +kernel) rfl (by decide) dX0_salveNeeded_7 rfl (Nat.le_of_ble_eq_true rfl) (pI_k ?_)
  refine g_iconst F dX0_salveNeeded_10 (1) (by decide) ?_
  refine g_iadd F dX0_salveNeeded_11 ?_
  refine g_iconst F dX0_salveNeeded_12 (2) (by decide) ?_
  refine g_idiv F dX0_salveNeeded_13 (by omega) (by decide) (by decide) ?_
  refine g_max F mk_X0_138 (by decide) (by decide) (by omega) dX0_salveNeeded_14 (Nat.le_of_ble_eq_true rfl) ?_
  exact g_ireturn F hR dX0_salveNeeded_17 (pI_i (by rfl) rfl rfl)

set_option maxRecDepth 20000 in
theorem c_X0_cleanChances (l : Launch) (D : gD) (ad : gA) (x : gX) (y : gY) (i p : Int) (hi : 0 ≤ i ∧ i < 7) (hN : NOK x) (hm : MOK x i) (hp : 0 ≤ p ∧ p ≤ 12) : gC l D ad 3 yX0_cleanChances cX0_cleanChances 4 (some .int) [.ref (ad 0 (0)), .ref (ad 3 (i)), .int (J (p))] x y (pI (ccU x i p) (x) (y)) := by
  refine g_met RX0 rfl (by decide +kernel) [(0, .ref (ad 0 (0))), (1, .ref (ad 3 (i))), (2, .int (J (p)))] rfl (Nat.le_of_ble_eq_true rfl) (fun Θ F hR => ?_)
  have r1 := lU_r hN.1 hm (h := x 15 0 0) (by omega)
  refine g_aload_n F dX0_cleanChances_0 rfl 0 rfl ?_
  refine g_aload_n F dX0_cleanChances_1 rfl 1 rfl ?_
  refine g_aload_n F dX0_cleanChances_2 rfl 0 rfl ?_
  refine gg_Court_heat F fk_X0_31 dX0_cleanChances_3 ?_
  refine g_callV 2 F (As := [.ref (ad 3 (i)), .int (J (x 15 (0) (0)))]) (st := []) (c_X0_lacking l D ad x y (i) (x 15 (0) (0)) (by omega) (hN.1) (by omega) (by omega)) (gR_0) rfl mk_X0_87 ki_X0_lacking kc_X0_lacking (by decide +kernel) rfl (by decide) dX0_cleanChances_6 rfl (Nat.le_of_ble_eq_true rfl) (pI_k ?_)
  refine g_istore_n F [(3, .int (J (lU x (i) (x 15 (0) (0))))), (0, .ref (ad 0 (0))), (1, .ref (ad 3 (i))), (2, .int (J (p)))] dX0_cleanChances_9 rfl (by decide) rfl ?_
  refine g_iload_n F dX0_cleanChances_10 rfl 0 rfl ?_
  refine g_if_le 16 F dX0_cleanChances_11 (by omega) rfl (fun c_1 => ?_) (fun c_1 => ?_)
  · skip
    refine g_iload_n F dX0_cleanChances_16 rfl 0 rfl ?_
    refine g_iconst F dX0_cleanChances_17 (3) (by decide) ?_
    refine g_iadd F dX0_cleanChances_18 ?_
    refine g_if_le 29 F dX0_cleanChances_19 (by omega) rfl (fun c_2 => ?_) (fun c_2 => ?_)
    · skip
      refine g_bipush F dX0_cleanChances_29 (12) (by decide) ?_
      exact g_ireturn F hR dX0_cleanChances_31 (pI_i (by unfold ccU; (repeat' split) <;> omega) rfl rfl)
    · skip
      refine g_bipush F dX0_cleanChances_22 (12) (by decide) ?_
      refine g_iload_n F dX0_cleanChances_24 rfl 3 rfl ?_
      refine g_isub F dX0_cleanChances_25 ?_
      refine g_goto F 31 dX0_cleanChances_26 rfl ?_
      exact g_ireturn F hR dX0_cleanChances_31 (pI_i (by unfold ccU; (repeat' split) <;> omega) rfl rfl)
  · skip
    refine g_iconst F dX0_cleanChances_14 (0) (by decide) ?_
    exact g_ireturn F hR dX0_cleanChances_15 (pI_i (by unfold ccU; (repeat' split) <;> omega) rfl rfl)

set_option maxRecDepth 20000 in
theorem c_X0_wouldWrong (l : Launch) (D : gD) (ad : gA) (x : gX) (y : gY) (i h : Int) (hi : 0 ≤ i ∧ i < 7) (hN : NOK x) (hm : MOK x i) (hh : 0 ≤ h ∧ h ≤ 100) : gC l D ad 4 yX0_wouldWrong cX0_wouldWrong 3 (some .boolean) [.ref (ad 0 (0)), .ref (ad 3 (i)), .int (J (h))] x y (pB (wW x i h) (x) (y)) := by
  refine g_met RX0 rfl (by decide +kernel) [(0, .ref (ad 0 (0))), (1, .ref (ad 3 (i))), (2, .int (J (h)))] rfl (Nat.le_of_ble_eq_true rfl) (fun Θ F hR => ?_)
  have r1 := vU_r x i h
  refine g_aload_n F dX0_wouldWrong_0 rfl 1 rfl ?_
  refine g_callV 0 F (As := []) (st := []) (c_X3_isTried l D ad x y (i) (by omega) (by omega)) (gR_3 (by omega)) rfl mk_X0_144 ki_X3_isTried kc_X3_isTried (by decide +kernel) rfl (by decide) dX0_wouldWrong_1 rfl (Nat.le_of_ble_eq_true rfl) (pB_k ?_)
  refine g_ifb_ne 24 F dX0_wouldWrong_4 rfl (fun c_1 => ?_) (fun c_1 => ?_)
  · skip
    refine g_iconst F dX0_wouldWrong_24 (0) (by decide) ?_
    exact g_zreturn F hR dX0_wouldWrong_25 (by omega) (pB_i (by split <;> first | omega | contradiction) rfl rfl)
  · skip
    refine g_aload_n F dX0_wouldWrong_7 rfl 1 rfl ?_
    refine g_aload_n F dX0_wouldWrong_8 rfl 0 rfl ?_
    refine g_aload_n F dX0_wouldWrong_9 rfl 1 rfl ?_
    refine g_iload_n F dX0_wouldWrong_10 rfl 2 rfl ?_
    refine g_callV 2 F (As := [.ref (ad 3 (i)), .int (J (h))]) (st := [.ref (ad 3 (i))]) (c_X0_verdict l D ad x y (i) (h) (by omega) (hN.1) (by omega) (by omega)) (gR_0) rfl mk_X0_116 ki_X0_verdict kc_X0_verdict (by decide +kernel) rfl (by decide) dX0_wouldWrong_11 rfl (Nat.le_of_ble_eq_true rfl) (pI_k ?_)
    refine g_callV 1 F (As := [.int (J (vU x (i) (h)))]) (st := []) (c_X3_wrongedBy l D ad x y (i) (vU x (i) (h)) (by omega) (by omega) (by omega)) (gR_3 (by omega)) rfl mk_X0_118 ki_X3_wrongedBy kc_X3_wrongedBy (by decide +kernel) rfl (by decide) dX0_wouldWrong_14 rfl (Nat.le_of_ble_eq_true rfl) (pB_k ?_)
    refine g_ifb_eq 24 F dX0_wouldWrong_17 rfl (fun c_2 => ?_) (fun c_2 => ?_)
    · skip
      refine g_iconst F dX0_wouldWrong_24 (0) (by decide) ?_
      exact g_zreturn F hR dX0_wouldWrong_25 (by omega) (pB_i (by split <;> first | omega | contradiction) rfl rfl)
    · skip
      refine g_iconst F dX0_wouldWrong_20 (1) (by decide) ?_
      refine g_goto F 25 dX0_wouldWrong_21 rfl ?_
      exact g_zreturn F hR dX0_wouldWrong_25 (by omega) (pB_i (by split <;> first | omega | contradiction) rfl rfl)

set_option maxRecDepth 20000 in
theorem c_X0_guiltyWrongly (l : Launch) (D : gD) (ad : gA) (x : gX) (y : gY) (h : Int) (hN : NOK x) (hh : 0 ≤ h ∧ h ≤ 100) : gC l D ad 5 yX0_guiltyWrongly cX0_guiltyWrongly 4 (some .int) [.ref (ad 0 (0)), .int (J (h))] x y (pI (gwU x h) (x) (y)) := by
  refine g_met RX0 rfl (by decide +kernel) [(0, .ref (ad 0 (0))), (1, .int (J (h)))] rfl (Nat.le_of_ble_eq_true rfl) (fun Θ F hR => ?_)
  refine g_iconst F dX0_guiltyWrongly_0 (0) (by decide) ?_
  refine g_istore_n F [(2, .int (J (0))), (0, .ref (ad 0 (0))), (1, .int (J (h)))] dX0_guiltyWrongly_1 rfl (by decide) rfl ?_
  refine g_iconst F dX0_guiltyWrongly_2 (0) (by decide) ?_
  refine g_istore_n F [(3, .int (J (0))), (2, .int (J (0))), (0, .ref (ad 0 (0))), (1, .int (J (h)))] dX0_guiltyWrongly_3 rfl (by decide) rfl ?_
  have L4 : ∀ (N : Nat) (a : Int) (j : Int), 0 ≤ j ∧ j ≤ x 10 0 0 → a = sumZ (fun i => if x 2 i 0 = 1 ∧ wW x i h then 1 else 0) j → (x 10 0 0 - j).toNat < N → gW Θ l D ad 4 4 [(0, .ref (ad 0 (0))), (1, .int (J (h))), (2, .int (J (a))), (3, .int (J (j)))] [] x y := by
    intro N
    induction N with
    | zero => intro a j hj ha hFu; omega
    | succ N ih4 =>
      intro a j hj ha hFu
      refine g_iload_n F dX0_guiltyWrongly_4 rfl 3 rfl ?_
      refine g_aload_n F dX0_guiltyWrongly_5 rfl 0 rfl ?_
      refine gg_Court_size F fk_X0_55 dX0_guiltyWrongly_6 ?_
      refine g_icmp_ge 53 F dX0_guiltyWrongly_9 (by omega) (by omega) rfl (fun c_1 => ?_) (fun c_1 => ?_)
      · skip
        refine g_iload_n F dX0_guiltyWrongly_53 rfl 2 rfl ?_
        exact g_ireturn F hR dX0_guiltyWrongly_54 (pI_i (by exact ha.trans (by rw [show j = x 10 0 0 by omega])) rfl rfl)
      · skip
        have hm := hN.2.2.2 j (by omega) (by omega)
        refine g_iload_n F dX0_guiltyWrongly_12 rfl 2 rfl ?_
        refine g_aload_n F dX0_guiltyWrongly_13 rfl 0 rfl ?_
        refine gg_Court_men F fk_X0_11 dX0_guiltyWrongly_14 ?_
        refine g_iload_n F dX0_guiltyWrongly_17 rfl 3 rfl ?_
        refine ga_32 F (by omega) dX0_guiltyWrongly_18 ?_
        refine ggN_Man_guilt F (by omega) fk_X0_69 dX0_guiltyWrongly_19 ?_
        refine g_iconst F dX0_guiltyWrongly_22 (1) (by decide) ?_
        refine g_icmp_ne 44 F dX0_guiltyWrongly_23 (by omega) (by decide) rfl (fun c_2 => ?_) (fun c_2 => ?_)
        · skip
          refine g_iconst F dX0_guiltyWrongly_44 (0) (by decide) ?_
          refine g_iadd F dX0_guiltyWrongly_45 ?_
          refine g_istore_n F [(2, .int (J ((a) + (0)))), (0, .ref (ad 0 (0))), (1, .int (J (h))), (3, .int (J (j)))] dX0_guiltyWrongly_46 rfl (by decide) rfl ?_
          refine g_iinc F [(3, .int (J (j + 1))), (2, .int (J ((a) + (0)))), (0, .ref (ad 0 (0))), (1, .int (J (h)))] 3 rfl dX0_guiltyWrongly_47 (by decide) rfl ?_
          refine g_goto F 4 dX0_guiltyWrongly_50 rfl ?_
          refine g_sub [2, 3, 1, 0] (lv' := [(0, .ref (ad 0 (0))), (1, .int (J (h))), (2, .int (J ((a) + (0)))), (3, .int (J (j + 1)))]) rfl ?_
          exact ih4 ((a) + (0)) (j + 1) (by omega) (by rw [sumZ_s _ (by omega), ← ha]; split <;> first | omega | contradiction) (by omega)
        · skip
          refine g_aload_n F dX0_guiltyWrongly_26 rfl 0 rfl ?_
          refine g_aload_n F dX0_guiltyWrongly_27 rfl 0 rfl ?_
          refine gg_Court_men F fk_X0_11 dX0_guiltyWrongly_28 ?_
          refine g_iload_n F dX0_guiltyWrongly_31 rfl 3 rfl ?_
          refine ga_32 F (by omega) dX0_guiltyWrongly_32 ?_
          refine g_iload_n F dX0_guiltyWrongly_33 rfl 1 rfl ?_
          refine g_callV 2 F (As := [.ref (ad 3 (j)), .int (J (h))]) (st := [.int (J (a))]) (c_X0_wouldWrong l D ad x y (j) (h) (by omega) (hN) (hN.2.2.2 _ (by omega) (by omega)) (by omega)) (gR_0) rfl mk_X0_161 ki_X0_wouldWrong kc_X0_wouldWrong (by decide +kernel) rfl (by decide) dX0_guiltyWrongly_34 rfl (Nat.le_of_ble_eq_true rfl) (pB_k ?_)
          refine g_ifb_eq 44 F dX0_guiltyWrongly_37 rfl (fun c_3 => ?_) (fun c_3 => ?_)
          · skip
            refine g_iconst F dX0_guiltyWrongly_44 (0) (by decide) ?_
            refine g_iadd F dX0_guiltyWrongly_45 ?_
            refine g_istore_n F [(2, .int (J ((a) + (0)))), (0, .ref (ad 0 (0))), (1, .int (J (h))), (3, .int (J (j)))] dX0_guiltyWrongly_46 rfl (by decide) rfl ?_
            refine g_iinc F [(3, .int (J (j + 1))), (2, .int (J ((a) + (0)))), (0, .ref (ad 0 (0))), (1, .int (J (h)))] 3 rfl dX0_guiltyWrongly_47 (by decide) rfl ?_
            refine g_goto F 4 dX0_guiltyWrongly_50 rfl ?_
            refine g_sub [2, 3, 1, 0] (lv' := [(0, .ref (ad 0 (0))), (1, .int (J (h))), (2, .int (J ((a) + (0)))), (3, .int (J (j + 1)))]) rfl ?_
            exact ih4 ((a) + (0)) (j + 1) (by omega) (by rw [sumZ_s _ (by omega), ← ha]; split <;> first | omega | contradiction) (by omega)
          · skip
            refine g_iconst F dX0_guiltyWrongly_40 (1) (by decide) ?_
            refine g_goto F 45 dX0_guiltyWrongly_41 rfl ?_
            refine g_iadd F dX0_guiltyWrongly_45 ?_
            refine g_istore_n F [(2, .int (J ((a) + (1)))), (0, .ref (ad 0 (0))), (1, .int (J (h))), (3, .int (J (j)))] dX0_guiltyWrongly_46 rfl (by decide) rfl ?_
            refine g_iinc F [(3, .int (J (j + 1))), (2, .int (J ((a) + (1)))), (0, .ref (ad 0 (0))), (1, .int (J (h)))] 3 rfl dX0_guiltyWrongly_47 (by decide) rfl ?_
            refine g_goto F 4 dX0_guiltyWrongly_50 rfl ?_
            refine g_sub [2, 3, 1, 0] (lv' := [(0, .ref (ad 0 (0))), (1, .int (J (h))), (2, .int (J ((a) + (1)))), (3, .int (J (j + 1)))]) rfl ?_
            exact ih4 ((a) + (1)) (j + 1) (by omega) (by rw [sumZ_s _ (by omega), ← ha]; split <;> first | omega | contradiction) (by omega)
  refine g_sub [2, 3, 1, 0] (lv' := [(0, .ref (ad 0 (0))), (1, .int (J (h))), (2, .int (J (0))), (3, .int (J (0)))]) rfl ?_
  exact L4 _ (0) (0) (by omega) (rfl) (Nat.lt_succ_self _)

set_option maxRecDepth 20000 in
theorem c_X0_allWrongly (l : Launch) (D : gD) (ad : gA) (x : gX) (y : gY) (h : Int) (hN : NOK x) (hh : 0 ≤ h ∧ h ≤ 100) : gC l D ad 5 yX0_allWrongly cX0_allWrongly 4 (some .int) [.ref (ad 0 (0)), .int (J (h))] x y (pI (awU x h) (x) (y)) := by
  refine g_met RX0 rfl (by decide +kernel) [(0, .ref (ad 0 (0))), (1, .int (J (h)))] rfl (Nat.le_of_ble_eq_true rfl) (fun Θ F hR => ?_)
  refine g_iconst F dX0_allWrongly_0 (0) (by decide) ?_
  refine g_istore_n F [(2, .int (J (0))), (0, .ref (ad 0 (0))), (1, .int (J (h)))] dX0_allWrongly_1 rfl (by decide) rfl ?_
  refine g_iconst F dX0_allWrongly_2 (0) (by decide) ?_
  refine g_istore_n F [(3, .int (J (0))), (2, .int (J (0))), (0, .ref (ad 0 (0))), (1, .int (J (h)))] dX0_allWrongly_3 rfl (by decide) rfl ?_
  have L4 : ∀ (N : Nat) (a : Int) (j : Int), 0 ≤ j ∧ j ≤ x 10 0 0 → a = sumZ (fun i => if wW x i h then 1 else 0) j → (x 10 0 0 - j).toNat < N → gW Θ l D ad 4 4 [(0, .ref (ad 0 (0))), (1, .int (J (h))), (2, .int (J (a))), (3, .int (J (j)))] [] x y := by
    intro N
    induction N with
    | zero => intro a j hj ha hFu; omega
    | succ N ih4 =>
      intro a j hj ha hFu
      refine g_iload_n F dX0_allWrongly_4 rfl 3 rfl ?_
      refine g_aload_n F dX0_allWrongly_5 rfl 0 rfl ?_
      refine gg_Court_size F fk_X0_55 dX0_allWrongly_6 ?_
      refine g_icmp_ge 40 F dX0_allWrongly_9 (by omega) (by omega) rfl (fun c_1 => ?_) (fun c_1 => ?_)
      · skip
        refine g_iload_n F dX0_allWrongly_40 rfl 2 rfl ?_
        exact g_ireturn F hR dX0_allWrongly_41 (pI_i (by exact ha.trans (by rw [show j = x 10 0 0 by omega])) rfl rfl)
      · skip
        have hm := hN.2.2.2 j (by omega) (by omega)
        refine g_iload_n F dX0_allWrongly_12 rfl 2 rfl ?_
        refine g_aload_n F dX0_allWrongly_13 rfl 0 rfl ?_
        refine g_aload_n F dX0_allWrongly_14 rfl 0 rfl ?_
        refine gg_Court_men F fk_X0_11 dX0_allWrongly_15 ?_
        refine g_iload_n F dX0_allWrongly_18 rfl 3 rfl ?_
        refine ga_32 F (by omega) dX0_allWrongly_19 ?_
        refine g_iload_n F dX0_allWrongly_20 rfl 1 rfl ?_
        refine g_callV 2 F (As := [.ref (ad 3 (j)), .int (J (h))]) (st := [.int (J (a))]) (c_X0_wouldWrong l D ad x y (j) (h) (by omega) (hN) (hN.2.2.2 _ (by omega) (by omega)) (by omega)) (gR_0) rfl mk_X0_161 ki_X0_wouldWrong kc_X0_wouldWrong (by decide +kernel) rfl (by decide) dX0_allWrongly_21 rfl (Nat.le_of_ble_eq_true rfl) (pB_k ?_)
        refine g_ifb_eq 31 F dX0_allWrongly_24 rfl (fun c_2 => ?_) (fun c_2 => ?_)
        · skip
          refine g_iconst F dX0_allWrongly_31 (0) (by decide) ?_
          refine g_iadd F dX0_allWrongly_32 ?_
          refine g_istore_n F [(2, .int (J ((a) + (0)))), (0, .ref (ad 0 (0))), (1, .int (J (h))), (3, .int (J (j)))] dX0_allWrongly_33 rfl (by decide) rfl ?_
          refine g_iinc F [(3, .int (J (j + 1))), (2, .int (J ((a) + (0)))), (0, .ref (ad 0 (0))), (1, .int (J (h)))] 3 rfl dX0_allWrongly_34 (by decide) rfl ?_
          refine g_goto F 4 dX0_allWrongly_37 rfl ?_
          refine g_sub [2, 3, 1, 0] (lv' := [(0, .ref (ad 0 (0))), (1, .int (J (h))), (2, .int (J ((a) + (0)))), (3, .int (J (j + 1)))]) rfl ?_
          exact ih4 ((a) + (0)) (j + 1) (by omega) (by rw [sumZ_s _ (by omega), ← ha]; split <;> first | omega | contradiction) (by omega)
        · skip
          refine g_iconst F dX0_allWrongly_27 (1) (by decide) ?_
          refine g_goto F 32 dX0_allWrongly_28 rfl ?_
          refine g_iadd F dX0_allWrongly_32 ?_
          refine g_istore_n F [(2, .int (J ((a) + (1)))), (0, .ref (ad 0 (0))), (1, .int (J (h))), (3, .int (J (j)))] dX0_allWrongly_33 rfl (by decide) rfl ?_
          refine g_iinc F [(3, .int (J (j + 1))), (2, .int (J ((a) + (1)))), (0, .ref (ad 0 (0))), (1, .int (J (h)))] 3 rfl dX0_allWrongly_34 (by decide) rfl ?_
          refine g_goto F 4 dX0_allWrongly_37 rfl ?_
          refine g_sub [2, 3, 1, 0] (lv' := [(0, .ref (ad 0 (0))), (1, .int (J (h))), (2, .int (J ((a) + (1)))), (3, .int (J (j + 1)))]) rfl ?_
          exact ih4 ((a) + (1)) (j + 1) (by omega) (by rw [sumZ_s _ (by omega), ← ha]; split <;> first | omega | contradiction) (by omega)
  refine g_sub [2, 3, 1, 0] (lv' := [(0, .ref (ad 0 (0))), (1, .int (J (h))), (2, .int (J (0))), (3, .int (J (0)))]) rfl ?_
  exact L4 _ (0) (0) (by omega) (rfl) (Nat.lt_succ_self _)

set_option maxRecDepth 20000 in
theorem c_X0_foulOnes (l : Launch) (D : gD) (ad : gA) (x : gX) (y : gY) (h : Int) (hN : NOK x) (hh : 0 ≤ h ∧ h ≤ 100) : gC l D ad 4 yX0_foulOnes cX0_foulOnes 4 (some .int) [.ref (ad 0 (0)), .int (J (h))] x y (pI (foU x h) (x) (y)) := by
  refine g_met RX0 rfl (by decide +kernel) [(0, .ref (ad 0 (0))), (1, .int (J (h)))] rfl (Nat.le_of_ble_eq_true rfl) (fun Θ F hR => ?_)
  refine g_iconst F dX0_foulOnes_0 (0) (by decide) ?_
  refine g_istore_n F [(2, .int (J (0))), (0, .ref (ad 0 (0))), (1, .int (J (h)))] dX0_foulOnes_1 rfl (by decide) rfl ?_
  refine g_iconst F dX0_foulOnes_2 (0) (by decide) ?_
  refine g_istore_n F [(3, .int (J (0))), (2, .int (J (0))), (0, .ref (ad 0 (0))), (1, .int (J (h)))] dX0_foulOnes_3 rfl (by decide) rfl ?_
  have L4 : ∀ (N : Nat) (a : Int) (j : Int), 0 ≤ j ∧ j ≤ x 10 0 0 → a = sumZ (fun i => if x 6 i 0 = -9 ∧ vU x i h = 0 then 1 else 0) j → (x 10 0 0 - j).toNat < N → gW Θ l D ad 4 4 [(0, .ref (ad 0 (0))), (1, .int (J (h))), (2, .int (J (a))), (3, .int (J (j)))] [] x y := by
    intro N
    induction N with
    | zero => intro a j hj ha hFu; omega
    | succ N ih4 =>
      intro a j hj ha hFu
      refine g_iload_n F dX0_foulOnes_4 rfl 3 rfl ?_
      refine g_aload_n F dX0_foulOnes_5 rfl 0 rfl ?_
      refine gg_Court_size F fk_X0_55 dX0_foulOnes_6 ?_
      refine g_icmp_ge 52 F dX0_foulOnes_9 (by omega) (by omega) rfl (fun c_1 => ?_) (fun c_1 => ?_)
      · skip
        refine g_iload_n F dX0_foulOnes_52 rfl 2 rfl ?_
        exact g_ireturn F hR dX0_foulOnes_53 (pI_i (by exact ha.trans (by rw [show j = x 10 0 0 by omega])) rfl rfl)
      · skip
        have hm := hN.2.2.2 j (by omega) (by omega)
        have r1 := vU_r x j h
        refine g_iload_n F dX0_foulOnes_12 rfl 2 rfl ?_
        refine g_aload_n F dX0_foulOnes_13 rfl 0 rfl ?_
        refine gg_Court_men F fk_X0_11 dX0_foulOnes_14 ?_
        refine g_iload_n F dX0_foulOnes_17 rfl 3 rfl ?_
        refine ga_32 F (by omega) dX0_foulOnes_18 ?_
        refine g_callV 0 F (As := []) (st := [.int (J (a))]) (c_X3_isTried l D ad x y (j) (by omega) (hN.2.2.2 _ (by omega) (by omega))) (gR_3 (by omega)) rfl mk_X0_144 ki_X3_isTried kc_X3_isTried (by decide +kernel) rfl (by decide) dX0_foulOnes_19 rfl (Nat.le_of_ble_eq_true rfl) (pB_k ?_)
        refine g_ifb_ne 43 F dX0_foulOnes_22 rfl (fun c_2 => ?_) (fun c_2 => ?_)
        · skip
          refine g_iconst F dX0_foulOnes_43 (0) (by decide) ?_
          refine g_iadd F dX0_foulOnes_44 ?_
          refine g_istore_n F [(2, .int (J ((a) + (0)))), (0, .ref (ad 0 (0))), (1, .int (J (h))), (3, .int (J (j)))] dX0_foulOnes_45 rfl (by decide) rfl ?_
          refine g_iinc F [(3, .int (J (j + 1))), (2, .int (J ((a) + (0)))), (0, .ref (ad 0 (0))), (1, .int (J (h)))] 3 rfl dX0_foulOnes_46 (by decide) rfl ?_
          refine g_goto F 4 dX0_foulOnes_49 rfl ?_
          refine g_sub [2, 3, 1, 0] (lv' := [(0, .ref (ad 0 (0))), (1, .int (J (h))), (2, .int (J ((a) + (0)))), (3, .int (J (j + 1)))]) rfl ?_
          exact ih4 ((a) + (0)) (j + 1) (by omega) (by rw [sumZ_s _ (by omega), ← ha]; split <;> first | omega | contradiction) (by omega)
        · skip
          refine g_aload_n F dX0_foulOnes_25 rfl 0 rfl ?_
          refine g_aload_n F dX0_foulOnes_26 rfl 0 rfl ?_
          refine gg_Court_men F fk_X0_11 dX0_foulOnes_27 ?_
          refine g_iload_n F dX0_foulOnes_30 rfl 3 rfl ?_
          refine ga_32 F (by omega) dX0_foulOnes_31 ?_
          refine g_iload_n F dX0_foulOnes_32 rfl 1 rfl ?_
          refine g_callV 2 F (As := [.ref (ad 3 (j)), .int (J (h))]) (st := [.int (J (a))]) (c_X0_verdict l D ad x y (j) (h) (by omega) (hN.1) (hN.2.2.2 _ (by omega) (by omega)) (by omega)) (gR_0) rfl mk_X0_116 ki_X0_verdict kc_X0_verdict (by decide +kernel) rfl (by decide) dX0_foulOnes_33 rfl (Nat.le_of_ble_eq_true rfl) (pI_k ?_)
          refine g_if_ne 43 F dX0_foulOnes_36 (by omega) rfl (fun c_3 => ?_) (fun c_3 => ?_)
          · skip
            refine g_iconst F dX0_foulOnes_43 (0) (by decide) ?_
            refine g_iadd F dX0_foulOnes_44 ?_
            refine g_istore_n F [(2, .int (J ((a) + (0)))), (0, .ref (ad 0 (0))), (1, .int (J (h))), (3, .int (J (j)))] dX0_foulOnes_45 rfl (by decide) rfl ?_
            refine g_iinc F [(3, .int (J (j + 1))), (2, .int (J ((a) + (0)))), (0, .ref (ad 0 (0))), (1, .int (J (h)))] 3 rfl dX0_foulOnes_46 (by decide) rfl ?_
            refine g_goto F 4 dX0_foulOnes_49 rfl ?_
            refine g_sub [2, 3, 1, 0] (lv' := [(0, .ref (ad 0 (0))), (1, .int (J (h))), (2, .int (J ((a) + (0)))), (3, .int (J (j + 1)))]) rfl ?_
            exact ih4 ((a) + (0)) (j + 1) (by omega) (by rw [sumZ_s _ (by omega), ← ha]; split <;> first | omega | contradiction) (by omega)
          · skip
            refine g_iconst F dX0_foulOnes_39 (1) (by decide) ?_
            refine g_goto F 44 dX0_foulOnes_40 rfl ?_
            refine g_iadd F dX0_foulOnes_44 ?_
            refine g_istore_n F [(2, .int (J ((a) + (1)))), (0, .ref (ad 0 (0))), (1, .int (J (h))), (3, .int (J (j)))] dX0_foulOnes_45 rfl (by decide) rfl ?_
            refine g_iinc F [(3, .int (J (j + 1))), (2, .int (J ((a) + (1)))), (0, .ref (ad 0 (0))), (1, .int (J (h)))] 3 rfl dX0_foulOnes_46 (by decide) rfl ?_
            refine g_goto F 4 dX0_foulOnes_49 rfl ?_
            refine g_sub [2, 3, 1, 0] (lv' := [(0, .ref (ad 0 (0))), (1, .int (J (h))), (2, .int (J ((a) + (1)))), (3, .int (J (j + 1)))]) rfl ?_
            exact ih4 ((a) + (1)) (j + 1) (by omega) (by rw [sumZ_s _ (by omega), ← ha]; split <;> first | omega | contradiction) (by omega)
  refine g_sub [2, 3, 1, 0] (lv' := [(0, .ref (ad 0 (0))), (1, .int (J (h))), (2, .int (J (0))), (3, .int (J (0)))]) rfl ?_
  exact L4 _ (0) (0) (by omega) (rfl) (Nat.lt_succ_self _)

set_option maxRecDepth 20000 in
theorem c_X0_toldClean (l : Launch) (D : gD) (ad : gA) (x : gX) (y : gY)  (hN : NOK x) : gC l D ad 0 yX0_toldClean cX0_toldClean 3 (some .int) [.ref (ad 0 (0))] x y (pI (tcU x) (x) (y)) := by
  refine g_met RX0 rfl (by decide +kernel) [(0, .ref (ad 0 (0)))] rfl (Nat.le_of_ble_eq_true rfl) (fun Θ F hR => ?_)
  refine g_iconst F dX0_toldClean_0 (0) (by decide) ?_
  refine g_istore_n F [(1, .int (J (0))), (0, .ref (ad 0 (0)))] dX0_toldClean_1 rfl (by decide) rfl ?_
  refine g_iconst F dX0_toldClean_2 (0) (by decide) ?_
  refine g_istore_n F [(2, .int (J (0))), (1, .int (J (0))), (0, .ref (ad 0 (0)))] dX0_toldClean_3 rfl (by decide) rfl ?_
  have L4 : ∀ (N : Nat) (a : Int) (j : Int), 0 ≤ j ∧ j ≤ x 10 0 0 → a = sumZ (fun i => if x 6 i 0 = 1 then 1 else 0) j → (x 10 0 0 - j).toNat < N → gW Θ l D ad 3 4 [(0, .ref (ad 0 (0))), (1, .int (J (a))), (2, .int (J (j)))] [] x y := by
    intro N
    induction N with
    | zero => intro a j hj ha hFu; omega
    | succ N ih4 =>
      intro a j hj ha hFu
      refine g_iload_n F dX0_toldClean_4 rfl 2 rfl ?_
      refine g_aload_n F dX0_toldClean_5 rfl 0 rfl ?_
      refine gg_Court_size F fk_X0_55 dX0_toldClean_6 ?_
      refine g_icmp_ge 39 F dX0_toldClean_9 (by omega) (by omega) rfl (fun c_1 => ?_) (fun c_1 => ?_)
      · skip
        refine g_iload_n F dX0_toldClean_39 rfl 1 rfl ?_
        exact g_ireturn F hR dX0_toldClean_40 (pI_i (by exact ha.trans (by rw [show j = x 10 0 0 by omega])) rfl rfl)
      · skip
        have hm := hN.2.2.2 j (by omega) (by omega)
        refine g_iload_n F dX0_toldClean_12 rfl 1 rfl ?_
        refine g_aload_n F dX0_toldClean_13 rfl 0 rfl ?_
        refine gg_Court_men F fk_X0_11 dX0_toldClean_14 ?_
        refine g_iload_n F dX0_toldClean_17 rfl 2 rfl ?_
        refine ga_32 F (by omega) dX0_toldClean_18 ?_
        refine ggN_Man_verdict F (by omega) fk_X0_93 dX0_toldClean_19 ?_
        refine g_iconst F dX0_toldClean_22 (1) (by decide) ?_
        refine g_icmp_ne 30 F dX0_toldClean_23 (by omega) (by decide) rfl (fun c_2 => ?_) (fun c_2 => ?_)
        · skip
          refine g_iconst F dX0_toldClean_30 (0) (by decide) ?_
          refine g_iadd F dX0_toldClean_31 ?_
          refine g_istore_n F [(1, .int (J ((a) + (0)))), (0, .ref (ad 0 (0))), (2, .int (J (j)))] dX0_toldClean_32 rfl (by decide) rfl ?_
          refine g_iinc F [(2, .int (J (j + 1))), (1, .int (J ((a) + (0)))), (0, .ref (ad 0 (0)))] 2 rfl dX0_toldClean_33 (by decide) rfl ?_
          refine g_goto F 4 dX0_toldClean_36 rfl ?_
          refine g_sub [2, 1, 0] (lv' := [(0, .ref (ad 0 (0))), (1, .int (J ((a) + (0)))), (2, .int (J (j + 1)))]) rfl ?_
          exact ih4 ((a) + (0)) (j + 1) (by omega) (by rw [sumZ_s _ (by omega), ← ha]; split <;> first | omega | contradiction) (by omega)
        · skip
          refine g_iconst F dX0_toldClean_26 (1) (by decide) ?_
          refine g_goto F 31 dX0_toldClean_27 rfl ?_
          refine g_iadd F dX0_toldClean_31 ?_
          refine g_istore_n F [(1, .int (J ((a) + (1)))), (0, .ref (ad 0 (0))), (2, .int (J (j)))] dX0_toldClean_32 rfl (by decide) rfl ?_
          refine g_iinc F [(2, .int (J (j + 1))), (1, .int (J ((a) + (1)))), (0, .ref (ad 0 (0)))] 2 rfl dX0_toldClean_33 (by decide) rfl ?_
          refine g_goto F 4 dX0_toldClean_36 rfl ?_
          refine g_sub [2, 1, 0] (lv' := [(0, .ref (ad 0 (0))), (1, .int (J ((a) + (1)))), (2, .int (J (j + 1)))]) rfl ?_
          exact ih4 ((a) + (1)) (j + 1) (by omega) (by rw [sumZ_s _ (by omega), ← ha]; split <;> first | omega | contradiction) (by omega)
  refine g_sub [2, 1, 0] (lv' := [(0, .ref (ad 0 (0))), (1, .int (J (0))), (2, .int (J (0)))]) rfl ?_
  exact L4 _ (0) (0) (by omega) (rfl) (Nat.lt_succ_self _)

set_option maxRecDepth 20000 in
theorem c_X0_toldWrongly (l : Launch) (D : gD) (ad : gA) (x : gX) (y : gY)  (hN : NOK x) : gC l D ad 0 yX0_toldWrongly cX0_toldWrongly 3 (some .int) [.ref (ad 0 (0))] x y (pI (twU x) (x) (y)) := by
  refine g_met RX0 rfl (by decide +kernel) [(0, .ref (ad 0 (0)))] rfl (Nat.le_of_ble_eq_true rfl) (fun Θ F hR => ?_)
  refine g_iconst F dX0_toldWrongly_0 (0) (by decide) ?_
  refine g_istore_n F [(1, .int (J (0))), (0, .ref (ad 0 (0)))] dX0_toldWrongly_1 rfl (by decide) rfl ?_
  refine g_iconst F dX0_toldWrongly_2 (0) (by decide) ?_
  refine g_istore_n F [(2, .int (J (0))), (1, .int (J (0))), (0, .ref (ad 0 (0)))] dX0_toldWrongly_3 rfl (by decide) rfl ?_
  have L4 : ∀ (N : Nat) (a : Int) (j : Int), 0 ≤ j ∧ j ≤ x 10 0 0 → a = sumZ (fun i => if x 7 i 0 = 1 then 1 else 0) j → (x 10 0 0 - j).toNat < N → gW Θ l D ad 3 4 [(0, .ref (ad 0 (0))), (1, .int (J (a))), (2, .int (J (j)))] [] x y := by
    intro N
    induction N with
    | zero => intro a j hj ha hFu; omega
    | succ N ih4 =>
      intro a j hj ha hFu
      refine g_iload_n F dX0_toldWrongly_4 rfl 2 rfl ?_
      refine g_aload_n F dX0_toldWrongly_5 rfl 0 rfl ?_
      refine gg_Court_size F fk_X0_55 dX0_toldWrongly_6 ?_
      refine g_icmp_ge 38 F dX0_toldWrongly_9 (by omega) (by omega) rfl (fun c_1 => ?_) (fun c_1 => ?_)
      · skip
        refine g_iload_n F dX0_toldWrongly_38 rfl 1 rfl ?_
        exact g_ireturn F hR dX0_toldWrongly_39 (pI_i (by exact ha.trans (by rw [show j = x 10 0 0 by omega])) rfl rfl)
      · skip
        have hm := hN.2.2.2 j (by omega) (by omega)
        refine g_iload_n F dX0_toldWrongly_12 rfl 1 rfl ?_
        refine g_aload_n F dX0_toldWrongly_13 rfl 0 rfl ?_
        refine gg_Court_men F fk_X0_11 dX0_toldWrongly_14 ?_
        refine g_iload_n F dX0_toldWrongly_17 rfl 2 rfl ?_
        refine ga_32 F (by omega) dX0_toldWrongly_18 ?_
        refine ggN_Man_wronged F (by omega) fk_X0_121 dX0_toldWrongly_19 ?_
        refine g_if_eq 29 F dX0_toldWrongly_22 (by omega) rfl (fun c_2 => ?_) (fun c_2 => ?_)
        · skip
          refine g_iconst F dX0_toldWrongly_29 (0) (by decide) ?_
          refine g_iadd F dX0_toldWrongly_30 ?_
          refine g_istore_n F [(1, .int (J ((a) + (0)))), (0, .ref (ad 0 (0))), (2, .int (J (j)))] dX0_toldWrongly_31 rfl (by decide) rfl ?_
          refine g_iinc F [(2, .int (J (j + 1))), (1, .int (J ((a) + (0)))), (0, .ref (ad 0 (0)))] 2 rfl dX0_toldWrongly_32 (by decide) rfl ?_
          refine g_goto F 4 dX0_toldWrongly_35 rfl ?_
          refine g_sub [2, 1, 0] (lv' := [(0, .ref (ad 0 (0))), (1, .int (J ((a) + (0)))), (2, .int (J (j + 1)))]) rfl ?_
          exact ih4 ((a) + (0)) (j + 1) (by omega) (by rw [sumZ_s _ (by omega), ← ha]; split <;> first | omega | contradiction) (by omega)
        · skip
          refine g_iconst F dX0_toldWrongly_25 (1) (by decide) ?_
          refine g_goto F 30 dX0_toldWrongly_26 rfl ?_
          refine g_iadd F dX0_toldWrongly_30 ?_
          refine g_istore_n F [(1, .int (J ((a) + (1)))), (0, .ref (ad 0 (0))), (2, .int (J (j)))] dX0_toldWrongly_31 rfl (by decide) rfl ?_
          refine g_iinc F [(2, .int (J (j + 1))), (1, .int (J ((a) + (1)))), (0, .ref (ad 0 (0)))] 2 rfl dX0_toldWrongly_32 (by decide) rfl ?_
          refine g_goto F 4 dX0_toldWrongly_35 rfl ?_
          refine g_sub [2, 1, 0] (lv' := [(0, .ref (ad 0 (0))), (1, .int (J ((a) + (1)))), (2, .int (J (j + 1)))]) rfl ?_
          exact ih4 ((a) + (1)) (j + 1) (by omega) (by rw [sumZ_s _ (by omega), ← ha]; split <;> first | omega | contradiction) (by omega)
  refine g_sub [2, 1, 0] (lv' := [(0, .ref (ad 0 (0))), (1, .int (J (0))), (2, .int (J (0)))]) rfl ?_
  exact L4 _ (0) (0) (by omega) (rfl) (Nat.lt_succ_self _)

set_option maxRecDepth 20000 in
theorem c_X0_allSalve (l : Launch) (D : gD) (ad : gA) (x : gX) (y : gY)  (hN : NOK x) : gC l D ad 0 yX0_allSalve cX0_allSalve 3 (some .int) [.ref (ad 0 (0))] x y (pI (saU x) (x) (y)) := by
  refine g_met RX0 rfl (by decide +kernel) [(0, .ref (ad 0 (0)))] rfl (Nat.le_of_ble_eq_true rfl) (fun Θ F hR => ?_)
  refine g_iconst F dX0_allSalve_0 (0) (by decide) ?_
  refine g_istore_n F [(1, .int (J (0))), (0, .ref (ad 0 (0)))] dX0_allSalve_1 rfl (by decide) rfl ?_
  refine g_iconst F dX0_allSalve_2 (0) (by decide) ?_
  refine g_istore_n F [(2, .int (J (0))), (1, .int (J (0))), (0, .ref (ad 0 (0)))] dX0_allSalve_3 rfl (by decide) rfl ?_
  have L4 : ∀ (N : Nat) (a : Int) (j : Int), 0 ≤ j ∧ j ≤ x 10 0 0 → a = sumZ (fun i => x 5 i 0) j → (x 10 0 0 - j).toNat < N → gW Θ l D ad 3 4 [(0, .ref (ad 0 (0))), (1, .int (J (a))), (2, .int (J (j)))] [] x y := by
    intro N
    induction N with
    | zero => intro a j hj ha hFu; omega
    | succ N ih4 =>
      intro a j hj ha hFu
      refine g_iload_n F dX0_allSalve_4 rfl 2 rfl ?_
      refine g_aload_n F dX0_allSalve_5 rfl 0 rfl ?_
      refine gg_Court_size F fk_X0_55 dX0_allSalve_6 ?_
      refine g_icmp_ge 30 F dX0_allSalve_9 (by omega) (by omega) rfl (fun c_1 => ?_) (fun c_1 => ?_)
      · skip
        refine g_iload_n F dX0_allSalve_30 rfl 1 rfl ?_
        exact g_ireturn F hR dX0_allSalve_31 (pI_i (by exact ha.trans (by rw [show j = x 10 0 0 by omega])) rfl rfl)
      · skip
        have hm := hN.2.2.2 j (by omega) (by omega)
        refine g_iload_n F dX0_allSalve_12 rfl 1 rfl ?_
        refine g_aload_n F dX0_allSalve_13 rfl 0 rfl ?_
        refine gg_Court_men F fk_X0_11 dX0_allSalve_14 ?_
        refine g_iload_n F dX0_allSalve_17 rfl 2 rfl ?_
        refine ga_32 F (by omega) dX0_allSalve_18 ?_
        refine ggN_Man_salve F (by omega) fk_X0_90 dX0_allSalve_19 ?_
        refine g_iadd F dX0_allSalve_22 ?_
        refine g_istore_n F [(1, .int (J ((a) + (x 5 (j) (0))))), (0, .ref (ad 0 (0))), (2, .int (J (j)))] dX0_allSalve_23 rfl (by decide) rfl ?_
        refine g_iinc F [(2, .int (J (j + 1))), (1, .int (J ((a) + (x 5 (j) (0))))), (0, .ref (ad 0 (0)))] 2 rfl dX0_allSalve_24 (by decide) rfl ?_
        refine g_goto F 4 dX0_allSalve_27 rfl ?_
        refine g_sub [2, 1, 0] (lv' := [(0, .ref (ad 0 (0))), (1, .int (J ((a) + (x 5 (j) (0))))), (2, .int (J (j + 1)))]) rfl ?_
        exact ih4 ((a) + (x 5 (j) (0))) (j + 1) (by omega) (by rw [sumZ_s _ (by omega), ← ha]) (by omega)
  refine g_sub [2, 1, 0] (lv' := [(0, .ref (ad 0 (0))), (1, .int (J (0))), (2, .int (J (0)))]) rfl ?_
  exact L4 _ (0) (0) (by omega) (rfl) (Nat.lt_succ_self _)

set_option maxRecDepth 20000 in
theorem c_X0_ploughmen (l : Launch) (D : gD) (ad : gA) (x : gX) (y : gY)  (hN : NOK x) : gC l D ad 1 yX0_ploughmen cX0_ploughmen 3 (some .int) [.ref (ad 0 (0))] x y (pI (plU x) (x) (y)) := by
  refine g_met RX0 rfl (by decide +kernel) [(0, .ref (ad 0 (0)))] rfl (Nat.le_of_ble_eq_true rfl) (fun Θ F hR => ?_)
  refine g_iconst F dX0_ploughmen_0 (0) (by decide) ?_
  refine g_istore_n F [(1, .int (J (0))), (0, .ref (ad 0 (0)))] dX0_ploughmen_1 rfl (by decide) rfl ?_
  refine g_iconst F dX0_ploughmen_2 (0) (by decide) ?_
  refine g_istore_n F [(2, .int (J (0))), (1, .int (J (0))), (0, .ref (ad 0 (0)))] dX0_ploughmen_3 rfl (by decide) rfl ?_
  have L4 : ∀ (N : Nat) (a : Int) (j : Int), 0 ≤ j ∧ j ≤ x 10 0 0 → a = sumZ (fun i => if sOf (x 1 i 0) 1 then 1 else 0) j → (x 10 0 0 - j).toNat < N → gW Θ l D ad 3 4 [(0, .ref (ad 0 (0))), (1, .int (J (a))), (2, .int (J (j)))] [] x y := by
    intro N
    induction N with
    | zero => intro a j hj ha hFu; omega
    | succ N ih4 =>
      intro a j hj ha hFu
      refine g_iload_n F dX0_ploughmen_4 rfl 2 rfl ?_
      refine g_aload_n F dX0_ploughmen_5 rfl 0 rfl ?_
      refine gg_Court_size F fk_X0_55 dX0_ploughmen_6 ?_
      refine g_icmp_ge 39 F dX0_ploughmen_9 (by omega) (by omega) rfl (fun c_1 => ?_) (fun c_1 => ?_)
      · skip
        refine g_iload_n F dX0_ploughmen_39 rfl 1 rfl ?_
        exact g_ireturn F hR dX0_ploughmen_40 (pI_i (by exact ha.trans (by rw [show j = x 10 0 0 by omega])) rfl rfl)
      · skip
        have hm := hN.2.2.2 j (by omega) (by omega)
        refine g_iload_n F dX0_ploughmen_12 rfl 1 rfl ?_
        refine g_aload_n F dX0_ploughmen_13 rfl 0 rfl ?_
        refine gg_Court_men F fk_X0_11 dX0_ploughmen_14 ?_
        refine g_iload_n F dX0_ploughmen_17 rfl 2 rfl ?_
        refine ga_32 F (by omega) dX0_ploughmen_18 ?_
        refine g_iconst F dX0_ploughmen_19 (1) (by decide) ?_
        refine g_callV 1 F (As := [.int (J (1))]) (st := [.int (J (a))]) (c_X3_isOf l D ad x y (j) (1) (by omega) (hN.2.2.2 _ (by omega) (by omega)) (by omega)) (gR_3 (by omega)) rfl mk_X0_174 ki_X3_isOf kc_X3_isOf (by decide +kernel) rfl (by decide) dX0_ploughmen_20 rfl (Nat.le_of_ble_eq_true rfl) (pB_k ?_)
        refine g_ifb_eq 30 F dX0_ploughmen_23 rfl (fun c_2 => ?_) (fun c_2 => ?_)
        · skip
          refine g_iconst F dX0_ploughmen_30 (0) (by decide) ?_
          refine g_iadd F dX0_ploughmen_31 ?_
          refine g_istore_n F [(1, .int (J ((a) + (0)))), (0, .ref (ad 0 (0))), (2, .int (J (j)))] dX0_ploughmen_32 rfl (by decide) rfl ?_
          refine g_iinc F [(2, .int (J (j + 1))), (1, .int (J ((a) + (0)))), (0, .ref (ad 0 (0)))] 2 rfl dX0_ploughmen_33 (by decide) rfl ?_
          refine g_goto F 4 dX0_ploughmen_36 rfl ?_
          refine g_sub [2, 1, 0] (lv' := [(0, .ref (ad 0 (0))), (1, .int (J ((a) + (0)))), (2, .int (J (j + 1)))]) rfl ?_
          exact ih4 ((a) + (0)) (j + 1) (by omega) (by rw [sumZ_s _ (by omega), ← ha]; split <;> first | omega | contradiction) (by omega)
        · skip
          refine g_iconst F dX0_ploughmen_26 (1) (by decide) ?_
          refine g_goto F 31 dX0_ploughmen_27 rfl ?_
          refine g_iadd F dX0_ploughmen_31 ?_
          refine g_istore_n F [(1, .int (J ((a) + (1)))), (0, .ref (ad 0 (0))), (2, .int (J (j)))] dX0_ploughmen_32 rfl (by decide) rfl ?_
          refine g_iinc F [(2, .int (J (j + 1))), (1, .int (J ((a) + (1)))), (0, .ref (ad 0 (0)))] 2 rfl dX0_ploughmen_33 (by decide) rfl ?_
          refine g_goto F 4 dX0_ploughmen_36 rfl ?_
          refine g_sub [2, 1, 0] (lv' := [(0, .ref (ad 0 (0))), (1, .int (J ((a) + (1)))), (2, .int (J (j + 1)))]) rfl ?_
          exact ih4 ((a) + (1)) (j + 1) (by omega) (by rw [sumZ_s _ (by omega), ← ha]; split <;> first | omega | contradiction) (by omega)
  refine g_sub [2, 1, 0] (lv' := [(0, .ref (ad 0 (0))), (1, .int (J (0))), (2, .int (J (0)))]) rfl ?_
  exact L4 _ (0) (0) (by omega) (rfl) (Nat.lt_succ_self _)

set_option maxRecDepth 20000 in
theorem c_X0_triedOnes (l : Launch) (D : gD) (ad : gA) (x : gX) (y : gY)  (hN : NOK x) : gC l D ad 1 yX0_triedOnes cX0_triedOnes 3 (some .int) [.ref (ad 0 (0))] x y (pI (trU x) (x) (y)) := by
  refine g_met RX0 rfl (by decide +kernel) [(0, .ref (ad 0 (0)))] rfl (Nat.le_of_ble_eq_true rfl) (fun Θ F hR => ?_)
  refine g_iconst F dX0_triedOnes_0 (0) (by decide) ?_
  refine g_istore_n F [(1, .int (J (0))), (0, .ref (ad 0 (0)))] dX0_triedOnes_1 rfl (by decide) rfl ?_
  refine g_iconst F dX0_triedOnes_2 (0) (by decide) ?_
  refine g_istore_n F [(2, .int (J (0))), (1, .int (J (0))), (0, .ref (ad 0 (0)))] dX0_triedOnes_3 rfl (by decide) rfl ?_
  have L4 : ∀ (N : Nat) (a : Int) (j : Int), 0 ≤ j ∧ j ≤ x 10 0 0 → a = sumZ (fun i => if x 6 i 0 ≠ -9 then p2 i else 0) j → (x 10 0 0 - j).toNat < N → gW Θ l D ad 3 4 [(0, .ref (ad 0 (0))), (1, .int (J (a))), (2, .int (J (j)))] [] x y := by
    intro N
    induction N with
    | zero => intro a j hj ha hFu; omega
    | succ N ih4 =>
      intro a j hj ha hFu
      refine g_iload_n F dX0_triedOnes_4 rfl 2 rfl ?_
      refine g_aload_n F dX0_triedOnes_5 rfl 0 rfl ?_
      refine gg_Court_size F fk_X0_55 dX0_triedOnes_6 ?_
      refine g_icmp_ge 40 F dX0_triedOnes_9 (by omega) (by omega) rfl (fun c_1 => ?_) (fun c_1 => ?_)
      · skip
        refine g_iload_n F dX0_triedOnes_40 rfl 1 rfl ?_
        exact g_ireturn F hR dX0_triedOnes_41 (pI_i (by exact ha.trans (by rw [show j = x 10 0 0 by omega])) rfl rfl)
      · skip
        have hm := hN.2.2.2 j (by omega) (by omega)
        refine g_iload_n F dX0_triedOnes_12 rfl 1 rfl ?_
        refine g_aload_n F dX0_triedOnes_13 rfl 0 rfl ?_
        refine gg_Court_men F fk_X0_11 dX0_triedOnes_14 ?_
        refine g_iload_n F dX0_triedOnes_17 rfl 2 rfl ?_
        refine ga_32 F (by omega) dX0_triedOnes_18 ?_
        refine g_callV 0 F (As := []) (st := [.int (J (a))]) (c_X3_isTried l D ad x y (j) (by omega) (hN.2.2.2 _ (by omega) (by omega))) (gR_3 (by omega)) rfl mk_X0_144 ki_X3_isTried kc_X3_isTried (by decide +kernel) rfl (by decide) dX0_triedOnes_19 rfl (Nat.le_of_ble_eq_true rfl) (pB_k ?_)
        refine g_ifb_eq 31 F dX0_triedOnes_22 rfl (fun c_2 => ?_) (fun c_2 => ?_)
        · skip
          refine g_iconst F dX0_triedOnes_31 (0) (by decide) ?_
          refine g_ior F dX0_triedOnes_32 (a) (J_or0 _) ?_
          refine g_istore_n F [(1, .int (J (a))), (0, .ref (ad 0 (0))), (2, .int (J (j)))] dX0_triedOnes_33 rfl (by decide) rfl ?_
          refine g_iinc F [(2, .int (J (j + 1))), (1, .int (J (a))), (0, .ref (ad 0 (0)))] 2 rfl dX0_triedOnes_34 (by decide) rfl ?_
          refine g_goto F 4 dX0_triedOnes_37 rfl ?_
          refine g_sub [2, 1, 0] (lv' := [(0, .ref (ad 0 (0))), (1, .int (J (a))), (2, .int (J (j + 1)))]) rfl ?_
          exact ih4 (a) (j + 1) (by omega) (by rw [sumZ_s _ (by omega), ← ha]; split <;> first | omega | contradiction) (by omega)
        · skip
          refine g_iconst F dX0_triedOnes_25 (1) (by decide) ?_
          refine g_iload_n F dX0_triedOnes_26 rfl 2 rfl ?_
          refine g_ishl F dX0_triedOnes_27 (p2 (j)) (J_shl (by omega)) ?_
          refine g_goto F 32 dX0_triedOnes_28 rfl ?_
          refine g_ior F dX0_triedOnes_32 ((a) + p2 (j)) (J_or (by rw [ha]; exact (bitZ_r (P := fun i => x 6 i 0 ≠ -9) (by omega)).1) (by rw [ha]; exact (bitZ_r (P := fun i => x 6 i 0 ≠ -9) (by omega)).2) (by omega)) ?_
          refine g_istore_n F [(1, .int (J ((a) + p2 (j)))), (0, .ref (ad 0 (0))), (2, .int (J (j)))] dX0_triedOnes_33 rfl (by decide) rfl ?_
          refine g_iinc F [(2, .int (J (j + 1))), (1, .int (J ((a) + p2 (j)))), (0, .ref (ad 0 (0)))] 2 rfl dX0_triedOnes_34 (by decide) rfl ?_
          refine g_goto F 4 dX0_triedOnes_37 rfl ?_
          refine g_sub [2, 1, 0] (lv' := [(0, .ref (ad 0 (0))), (1, .int (J ((a) + p2 (j)))), (2, .int (J (j + 1)))]) rfl ?_
          exact ih4 ((a) + p2 (j)) (j + 1) (by omega) (by rw [sumZ_s _ (by omega), ← ha]; split <;> first | omega | contradiction) (by omega)
  refine g_sub [2, 1, 0] (lv' := [(0, .ref (ad 0 (0))), (1, .int (J (0))), (2, .int (J (0)))]) rfl ?_
  exact L4 _ (0) (0) (by omega) (rfl) (Nat.lt_succ_self _)

set_option maxRecDepth 20000 in
theorem c_X0_heatsTelling (l : Launch) (D : gD) (ad : gA) (x : gX) (y : gY) (i w : Int) (hi : 0 ≤ i ∧ i < 7) (hN : NOK x) (hm : MOK x i) (hw : -1 ≤ w ∧ w ≤ 2) : gC l D ad 4 yX0_heatsTelling cX0_heatsTelling 5 (some .int) [.ref (ad 0 (0)), .ref (ad 3 (i)), .int (J (w))] x y (pI (htU x i w) (x) (y)) := by
  refine g_met RX0 rfl (by decide +kernel) [(0, .ref (ad 0 (0))), (1, .ref (ad 3 (i))), (2, .int (J (w)))] rfl (Nat.le_of_ble_eq_true rfl) (fun Θ F hR => ?_)
  refine g_iconst F dX0_heatsTelling_0 (0) (by decide) ?_
  refine g_istore_n F [(3, .int (J (0))), (0, .ref (ad 0 (0))), (1, .ref (ad 3 (i))), (2, .int (J (w)))] dX0_heatsTelling_1 rfl (by decide) rfl ?_
  refine g_iconst F dX0_heatsTelling_2 (0) (by decide) ?_
  refine g_istore F [(4, .int (J (0))), (3, .int (J (0))), (0, .ref (ad 0 (0))), (1, .ref (ad 3 (i))), (2, .int (J (w)))] dX0_heatsTelling_3 (by decide) rfl ?_
  have L5 : ∀ (N : Nat) (a : Int) (j : Int), 0 ≤ j ∧ j ≤ 31 → a = sumZ (fun h => if vU x i h = w then p2 h else 0) j → (31 - j).toNat < N → gW Θ l D ad 5 5 [(0, .ref (ad 0 (0))), (1, .ref (ad 3 (i))), (2, .int (J (w))), (3, .int (J (a))), (4, .int (J (j)))] [] x y := by
    intro N
    induction N with
    | zero => intro a j hj ha hFu; omega
    | succ N ih5 =>
      intro a j hj ha hFu
      refine g_iload F dX0_heatsTelling_5 4 rfl ?_
      refine g_bipush F dX0_heatsTelling_7 (31) (by decide) ?_
      refine g_icmp_ge 40 F dX0_heatsTelling_9 (by omega) (by decide) rfl (fun c_1 => ?_) (fun c_1 => ?_)
      · skip
        refine g_iload_n F dX0_heatsTelling_40 rfl 3 rfl ?_
        exact g_ireturn F hR dX0_heatsTelling_41 (pI_i (by exact ha.trans (by rw [show j = 31 by omega])) rfl rfl)
      · skip
        have r1 := vU_r x i j
        refine g_iload_n F dX0_heatsTelling_12 rfl 3 rfl ?_
        refine g_aload_n F dX0_heatsTelling_13 rfl 0 rfl ?_
        refine g_aload_n F dX0_heatsTelling_14 rfl 1 rfl ?_
        refine g_iload F dX0_heatsTelling_15 4 rfl ?_
        refine g_callV 2 F (As := [.ref (ad 3 (i)), .int (J (j))]) (st := [.int (J (a))]) (c_X0_verdict l D ad x y (i) (j) (by omega) (hN.1) (by omega) (by omega)) (gR_0) rfl mk_X0_116 ki_X0_verdict kc_X0_verdict (by decide +kernel) rfl (by decide) dX0_heatsTelling_17 rfl (Nat.le_of_ble_eq_true rfl) (pI_k ?_)
        refine g_iload_n F dX0_heatsTelling_20 rfl 2 rfl ?_
        refine g_icmp_ne 31 F dX0_heatsTelling_21 (by omega) (by omega) rfl (fun c_2 => ?_) (fun c_2 => ?_)
        · skip
          refine g_iconst F dX0_heatsTelling_31 (0) (by decide) ?_
          refine g_ior F dX0_heatsTelling_32 (a) (J_or0 _) ?_
          refine g_istore_n F [(3, .int (J (a))), (0, .ref (ad 0 (0))), (1, .ref (ad 3 (i))), (2, .int (J (w))), (4, .int (J (j)))] dX0_heatsTelling_33 rfl (by decide) rfl ?_
          refine g_iinc F [(4, .int (J (j + 1))), (3, .int (J (a))), (0, .ref (ad 0 (0))), (1, .ref (ad 3 (i))), (2, .int (J (w)))] 4 rfl dX0_heatsTelling_34 (by decide) rfl ?_
          refine g_goto F 5 dX0_heatsTelling_37 rfl ?_
          refine g_sub [2, 3, 4, 1, 0] (lv' := [(0, .ref (ad 0 (0))), (1, .ref (ad 3 (i))), (2, .int (J (w))), (3, .int (J (a))), (4, .int (J (j + 1)))]) rfl ?_
          exact ih5 (a) (j + 1) (by omega) (by rw [sumZ_s _ (by omega), ← ha]; split <;> first | omega | contradiction) (by omega)
        · skip
          refine g_iconst F dX0_heatsTelling_24 (1) (by decide) ?_
          refine g_iload F dX0_heatsTelling_25 4 rfl ?_
          refine g_ishl F dX0_heatsTelling_27 (p2 (j)) (J_shl (by omega)) ?_
          refine g_goto F 32 dX0_heatsTelling_28 rfl ?_
          refine g_ior F dX0_heatsTelling_32 ((a) + p2 (j)) (J_or (by rw [ha]; exact (bitZ_r (P := fun h => vU x i h = w) (by omega)).1) (by rw [ha]; exact (bitZ_r (P := fun h => vU x i h = w) (by omega)).2) (by omega)) ?_
          refine g_istore_n F [(3, .int (J ((a) + p2 (j)))), (0, .ref (ad 0 (0))), (1, .ref (ad 3 (i))), (2, .int (J (w))), (4, .int (J (j)))] dX0_heatsTelling_33 rfl (by decide) rfl ?_
          refine g_iinc F [(4, .int (J (j + 1))), (3, .int (J ((a) + p2 (j)))), (0, .ref (ad 0 (0))), (1, .ref (ad 3 (i))), (2, .int (J (w)))] 4 rfl dX0_heatsTelling_34 (by decide) rfl ?_
          refine g_goto F 5 dX0_heatsTelling_37 rfl ?_
          refine g_sub [2, 3, 4, 1, 0] (lv' := [(0, .ref (ad 0 (0))), (1, .ref (ad 3 (i))), (2, .int (J (w))), (3, .int (J ((a) + p2 (j)))), (4, .int (J (j + 1)))]) rfl ?_
          exact ih5 ((a) + p2 (j)) (j + 1) (by omega) (by rw [sumZ_s _ (by omega), ← ha]; split <;> first | omega | contradiction) (by omega)
  refine g_sub [2, 3, 4, 1, 0] (lv' := [(0, .ref (ad 0 (0))), (1, .ref (ad 3 (i))), (2, .int (J (w))), (3, .int (J (0))), (4, .int (J (0)))]) rfl ?_
  exact L5 _ (0) (0) (by omega) (rfl) (Nat.lt_succ_self _)

set_option maxRecDepth 20000 in
theorem c_X0_likeOf (l : Launch) (D : gD) (ad : gA) (x : gX) (y : gY) (i : Int) (hi : 0 ≤ i ∧ i < 7) : gC l D ad 1 yX0_likeOf cX0_likeOf 2 (some (.object "ThirdDay$Man")) [.ref (ad 0 (0)), .ref (ad 3 (i))] x y (pR (ad 3 (6)) (likeM x i) (y)) := by
  refine g_met RX0 rfl (by decide +kernel) [(0, .ref (ad 0 (0))), (1, .ref (ad 3 (i)))] rfl (Nat.le_of_ble_eq_true rfl) (fun Θ F hR => ?_)
  refine g_aload_n F dX0_likeOf_0 rfl 0 rfl ?_
  refine gg_Court_supposed F fk_X0_18 dX0_likeOf_1 ?_
  refine g_aload_n F dX0_likeOf_4 rfl 1 rfl ?_
  refine ggN_Man_kind F (by omega) fk_X0_66 dX0_likeOf_5 ?_
  refine g_aload_n F dX0_likeOf_8 rfl 1 rfl ?_
  refine ggN_Man_guilt F (by omega) fk_X0_69 dX0_likeOf_9 ?_
  refine g_aload_n F dX0_likeOf_12 rfl 1 rfl ?_
  refine ggN_Man_belief F (by omega) fk_X0_72 dX0_likeOf_13 ?_
  refine g_aload_n F dX0_likeOf_16 rfl 1 rfl ?_
  refine ggN_Man_hand F (by omega) fk_X0_148 dX0_likeOf_17 ?_
  refine g_callV 4 F (As := [.int (J (x 1 (i) (0))), .int (J (x 2 (i) (0))), .int (J (x 3 (i) (0))), .int (J (x 4 (i) (0)))]) (st := []) (c_X3_become l D ad x y (6) (x 1 (i) (0)) (x 2 (i) (0)) (x 3 (i) (0)) (x 4 (i) (0)) (by omega)) (gR_3 (by decide)) rfl mk_X0_58 ki_X3_become kc_X3_become (by decide +kernel) rfl (by decide) dX0_likeOf_20 rfl (Nat.le_of_ble_eq_true rfl) (pV_k ?_)
  refine g_aload_n F dX0_likeOf_23 rfl 0 rfl ?_
  refine gg_Court_supposed F fk_X0_18 dX0_likeOf_24 ?_
  refine g_aload_n F dX0_likeOf_27 rfl 1 rfl ?_
  refine ggN_Man_salve F (by omega) fk_X0_90 dX0_likeOf_28 ?_
  refine gpN_Man_salve F (by decide) fk_X0_90 dX0_likeOf_31 ?_
  refine g_aload_n F dX0_likeOf_34 rfl 0 rfl ?_
  refine gg_Court_supposed F fk_X0_18 dX0_likeOf_35 ?_
  exact g_areturn F hR dX0_likeOf_38 (pR_i rfl (by rfl) rfl)
