theorem OLN_i {z : gX} {y w : gY} (h : LLP z y w (z 10 0 0)) (h6 : unL z ≤ 6) : OLN z w (aLL z) 1 := by
  obtain ⟨t, e⟩ := hd_ex h6
  refine Or.inr ⟨rfl, ixL (unL z), t, e, by rw [← e]; exact chO_pm h6, fun q q0 q1 => ?_⟩
  show w 52 q = fnL ((ixL (unL z)).map (fnL (unU z))) q
  rw [map_ix]
  exact h.2.2 q q0 q1
set_option maxHeartbeats 4000000 in
set_option maxRecDepth 20000 in
theorem c_X8_order (l : Launch) (D : gD) (ad : gA) (x : gX) (y : gY) (z : gX) (r : Int) (hr : i32 r) (hRel : Rel z y) : gC l D ad 8 yX8_order cX8_order 6 (some .int) [.ref (ad 8 (0)), .int (J (r))] x y (pH (.int (J ((sOrder z r).1))) (x) (fun w9 => Rel (sOrder z r).2 w9)) := by
  refine g_met RX8 rfl (by decide +kernel) [(0, .ref (ad 8 (0))), (1, .int (J (r)))] rfl (Nat.le_of_ble_eq_true rfl) (fun Θ F hR => ?_)
  have hN := hRel.1.1
  have hRW := hRel.1.2.1
  have hDD := hRel.1.2.2.1
  have hST := hRel.2.1
  have hB := Rel_SB hRel
  have h10 := hN.2.1
  have h15 := hN.2.2.1
  have hu6 : ((unL z : Nat) : Int) ≤ 6 := by rw [← ut_L]; exact (utN_r hN).2
  have hu6n : unL z ≤ 6 := Int.ofNat_le.mp hu6
  have hu0 : 0 ≤ ((unL z : Nat) : Int) := Int.natCast_nonneg _
  refine g_iload_n F dX8_order_0 rfl 1 rfl ?_
  refine g_callS 1 F (As := [.int (J (r))]) (st := []) (c_X8_isRow l D ad x y (r) (by omega)) rfl mk_X8_80 ki_X8_isRow kc_X8_isRow (by decide +kernel) rfl (by decide) dX8_order_1 rfl (Nat.le_of_ble_eq_true rfl) (pB_k ?_)
  refine g_ifb_ne 9 F dX8_order_4 rfl (fun c_1 => ?_) (fun c_1 => ?_)
  · skip
    refine g_aload_n F dX8_order_9 rfl 0 rfl ?_
    refine gg_Model_men F fk_X8_157 dX8_order_10 ?_
    refine g_topi (b := z 10 0 0) (hST.2.2.2.2.1) ?_
    refine g_if_ne 19 F dX8_order_13 (by omega) rfl (fun c_2 => ?_) (fun c_2 => ?_)
    · skip
      refine g_sipush F dX8_order_19 (999) (by decide) ?_
      refine g_istore_n F [(2, .int (J (999))), (0, .ref (ad 8 (0))), (1, .int (J (r)))] dX8_order_22 rfl (by decide) rfl ?_
      refine g_aload_n F dX8_order_23 rfl 1 rfl ?_
      refine g_callV 0 F (As := []) (st := []) (c_X8_layLine l D ad x y z (hRel)) (gR_8) rfl mk_X8_259 ki_X8_layLine kc_X8_layLine (by decide +kernel) rfl (by decide) dX8_order_24 rfl (Nat.le_of_ble_eq_true rfl) (pNH_k (fun v_24 hG_24 => ?_))
      refine g_iconst F dX8_order_27 (1) (by decide) ?_
      refine g_istore_n F [(3, .int (J (1))), (2, .int (J (999))), (0, .ref (ad 8 (0))), (1, .int (J (r)))] dX8_order_28 rfl (by decide) rfl ?_
      have L29 : ∀ (N : Nat) (w : gY) (ol : List (List Int)) (b : Int) (L : List Int) (h : Int), ORP z y w r b L → OLN z w ol h → bst (vL z) (mU z ol) (b, L) = ordB z → ((ol.length : Int)).toNat < N → gW Θ l D ad 6 29 [(0, .ref (ad 8 (0))), (1, .int (J (r))), (2, .int (J (b))), (3, .int (J (h)))] [] x w := by
        intro N
        induction N with
        | zero => intro w ol b L h hw hl hbst hFu; omega
        | succ N ih29 =>
          intro w ol b L h hw hl hbst hFu
          have hh := OLN_01 hl
          have hbr := ORP_b hw
          refine g_iload_n F dX8_order_29 rfl 3 rfl ?_
          refine g_if_eq 102 F dX8_order_30 (by omega) rfl (fun c_3 => ?_) (fun c_3 => ?_)
          · skip
            have hfin : (b, L) = ordB z := by have e0 := OLN_0 hl (by omega); rw [e0] at hbst; exact hbst
            refine g_iload_n F dX8_order_102 rfl 2 rfl ?_
            exact g_ireturn F hR dX8_order_103 (pH_z (by first | (rw [odA (by omega)]; done) | (rw [odB (by omega) (by omega)]; done) | (rw [odC (by omega) (by omega), ← hfin])) (by first | (rw [odA (by omega)]; exact hRel) | (rw [odB (by omega) (by omega)]; exact hRel) | (rw [odC (by omega) (by omega)]; exact OR_end hRel (by omega) hw hfin)) rfl)
          · skip
            obtain ⟨s, t, hel, hch, hsl⟩ := OLN_1 hl (by omega)
            obtain ⟨hnx, hol⟩ := chO_nx hch
            have hin := chO_in hch
            have hLN := ln_LN (s := s) h10.1 hin
            have hst2 := bst_st hel hbst
            have hevr := evZ_r hN (ln (fnL (unU z)) s) (k := ((unL z : Nat) : Int)) hu0
            have hlen : (ol.length : Int) = (t.length : Int) + 1 := by rw [hel]; rfl
            have hv7 : (evZ z (ln (fnL (unU z)) s) ((unL z : Nat) : Int)).1 < 7 := Int.lt_of_le_of_lt (Int.le_trans hevr.1.2 hu6) (by decide)
            have hl6 : ∀ j : Int, 0 ≤ j → j < ((unL z : Nat) : Int) → 0 ≤ (ln (fnL (unU z)) s) j ∧ (ln (fnL (unU z)) s) j < 6 := fun j j0 j1 => by (have e := (hLN.1 j j0 j1).1; omega)
            refine g_aload_n F dX8_order_33 rfl 0 rfl ?_
            refine g_callV 0 F (As := []) (st := []) (c_X8_wrongInLine l D ad x w z ((ln (fnL (unU z)) s)) (((unL z : Nat) : Int)) (ORP_ST hw h10.2 hST) (hN) (ORP_SB hw hB) (INV_UW hRel.1) (⟨hu0, hu6⟩) (hw.2.1) (hsl) (hLN)) (gR_8) rfl mk_X8_262 ki_X8_wrongInLine kc_X8_wrongInLine (by decide +kernel) rfl (by decide) dX8_order_34 rfl (Nat.le_of_ble_eq_true rfl) (pH_k (fun v_34 hG_34 => ?_))
            refine g_istore F [(4, .int (J ((evZ z ((ln (fnL (unU z)) s)) (((unL z : Nat) : Int))).1))), (0, .ref (ad 8 (0))), (1, .int (J (r))), (2, .int (J (b))), (3, .int (J (h)))] dX8_order_37 (by decide) rfl ?_
            refine g_iload F dX8_order_39 0 rfl ?_
            refine g_iload_n F dX8_order_41 rfl 3 rfl ?_
            refine g_icmp_ge 94 F dX8_order_42 (by omega) (by omega) rfl (fun c_4 => ?_) (fun c_4 => ?_)
            · skip
              refine g_aload_n F dX8_order_94 rfl 1 rfl ?_
              refine g_callV 0 F (As := []) (st := []) (c_X8_nextLine l D ad x v_34 ((ln (fnL (unU z)) s)) (((unL z : Nat) : Int)) (aO (unL z) s) (bO (unL z) s) (⟨hu0, hu6⟩) (by first | exact (ORP_w hw hG_34).2.1 | (rw [itY_k _ _ _ _ (by decide), mkY_k _ _ _ (by decide) (by decide)]; exact (ORP_w hw hG_34).2.1)) (fun q q0 q1 => by first | exact (congrFun (hG_34.1 52 (by decide)) q).trans (hsl q q0 q1) | (rw [itY_k _ _ _ _ (by decide), mkY_k _ _ _ (by decide) (by decide)]; exact (congrFun (hG_34.1 52 (by decide)) q).trans (hsl q q0 q1))) (fun q q0 q1 => by (have e := (hLN.1 q q0 q1).1; omega)) (hnx.1) (hnx.2.1) (hnx.2.2.1) (hnx.2.2.2.1) (hnx.2.2.2.2)) (gR_8) rfl mk_X8_265 ki_X8_nextLine kc_X8_nextLine (by decide +kernel) rfl (by decide) dX8_order_95 rfl (Nat.le_of_ble_eq_true rfl) (pH_k (fun v_95 hG_95 => ?_))
              refine g_istore_n F [(3, .int (J (if 0 ≤ (aO (unL z) s) then 1 else 0))), (4, .int (J ((evZ z ((ln (fnL (unU z)) s)) (((unL z : Nat) : Int))).1))), (0, .ref (ad 8 (0))), (1, .int (J (r))), (2, .int (J (b)))] dX8_order_98 rfl (by decide) rfl ?_
              refine g_goto F 29 dX8_order_99 rfl ?_
              refine g_sub [2, 3, 4, 0] (lv' := [(0, .ref (ad 8 (0))), (1, .int (J (r))), (2, .int (J (b))), (3, .int (J (if 0 ≤ (aO (unL z) s) then 1 else 0)))]) rfl ?_
              exact ih29 (v_95) (t) (b) (L) (if 0 ≤ (aO (unL z) s) then 1 else 0) (by first | exact ORP_x (ORP_w hw hG_34) hG_95.1 | (have ej : j = ((unL z : Nat) : Int) := (by omega); subst ej; exact ORP_x (ORP_t (ORP_w hw hG_34) ⟨hevr.1.1, hv7⟩ hu6 (fun _ => rfl) hl6) hG_95.1)) (hol _ _ hG_95) (by first | exact hst2.2 (by omega) | exact hst2.1 (by omega)) (by omega)
            · skip
              refine g_iload F dX8_order_45 0 rfl ?_
              refine g_istore_n F [(2, .int (J ((evZ z ((ln (fnL (unU z)) s)) (((unL z : Nat) : Int))).1))), (4, .int (J ((evZ z ((ln (fnL (unU z)) s)) (((unL z : Nat) : Int))).1))), (0, .ref (ad 8 (0))), (1, .int (J (r))), (3, .int (J (h)))] dX8_order_47 rfl (by decide) rfl ?_
              refine g_aload_n F dX8_order_48 rfl 2 rfl ?_
              refine g_iload_n F dX8_order_49 rfl 3 rfl ?_
              refine g_aload_n F dX8_order_50 rfl 2 rfl ?_
              refine gg_Model_lineSize F fk_X8_250 dX8_order_51 ?_
              refine g_topi (b := ((unL z : Nat) : Int)) ((ORP_w hw hG_34).2.1) ?_
              refine g_callV 2 F (As := [.int (J (r)), .int (J (((unL z : Nat) : Int)))]) (st := []) (c_X8_makeRow l D ad x v_34 (r) (((unL z : Nat) : Int)) (by omega)) (gR_8) rfl mk_X8_88 ki_X8_makeRow kc_X8_makeRow (by decide +kernel) rfl (by decide) dX8_order_54 rfl (Nat.le_of_ble_eq_true rfl) (pV_k ?_)
              refine g_iconst F dX8_order_57 (0) (by decide) ?_
              refine g_istore F [(5, .int (J (0))), (2, .int (J ((evZ z ((ln (fnL (unU z)) s)) (((unL z : Nat) : Int))).1))), (4, .int (J ((evZ z ((ln (fnL (unU z)) s)) (((unL z : Nat) : Int))).1))), (0, .ref (ad 8 (0))), (1, .int (J (r))), (3, .int (J (h)))] dX8_order_58 (by decide) rfl ?_
              have L60 : ∀ (N : Nat) (j : Int), 0 ≤ j ∧ j ≤ ((unL z : Nat) : Int) → (((unL z : Nat) : Int) - j).toNat < N → gW Θ l D ad 6 60 [(0, .ref (ad 8 (0))), (1, .int (J (r))), (2, .int (J ((evZ z (ln (fnL (unU z)) s) ((unL z : Nat) : Int)).1))), (5, .int (J (j)))] [] x (itY (mkY v_34 r ((unL z : Nat) : Int)) r (ln (fnL (unU z)) s) j) := by
                intro N
                induction N with
                | zero => intro j hj hFu; omega
                | succ N ih60 =>
                  intro j hj hFu
                  have hxj : j < ((unL z : Nat) : Int) → 0 ≤ (ln (fnL (unU z)) s) j ∧ (ln (fnL (unU z)) s) j < 6 := fun c => by (have e := (hLN.1 j hj.1 c).1; omega)
                  refine g_iload F dX8_order_60 3 rfl ?_
                  refine g_aload_n F dX8_order_62 rfl 0 rfl ?_
                  refine gg_Model_lineSize F fk_X8_250 dX8_order_63 ?_
                  refine g_topi (b := ((unL z : Nat) : Int)) (by rw [itY_k _ _ _ _ (by decide), mkY_k _ _ _ (by decide) (by decide)]; exact (ORP_w hw hG_34).2.1) ?_
                  refine g_icmp_ge 94 F dX8_order_66 (by omega) (by omega) rfl (fun c_5 => ?_) (fun c_5 => ?_)
                  · skip
                    refine g_aload_n F dX8_order_94 rfl 0 rfl ?_
                    refine g_callV 0 F (As := []) (st := []) (c_X8_nextLine l D ad x (itY (mkY v_34 r ((unL z : Nat) : Int)) r (ln (fnL (unU z)) s) j) ((ln (fnL (unU z)) s)) (((unL z : Nat) : Int)) (aO (unL z) s) (bO (unL z) s) (⟨hu0, hu6⟩) (by first | exact (ORP_w hw hG_34).2.1 | (rw [itY_k _ _ _ _ (by decide), mkY_k _ _ _ (by decide) (by decide)]; exact (ORP_w hw hG_34).2.1)) (fun q q0 q1 => by first | exact (congrFun (hG_34.1 52 (by decide)) q).trans (hsl q q0 q1) | (rw [itY_k _ _ _ _ (by decide), mkY_k _ _ _ (by decide) (by decide)]; exact (congrFun (hG_34.1 52 (by decide)) q).trans (hsl q q0 q1))) (fun q q0 q1 => by (have e := (hLN.1 q q0 q1).1; omega)) (hnx.1) (hnx.2.1) (hnx.2.2.1) (hnx.2.2.2.1) (hnx.2.2.2.2)) (gR_8) rfl mk_X8_265 ki_X8_nextLine kc_X8_nextLine (by decide +kernel) rfl (by decide) dX8_order_95 rfl (Nat.le_of_ble_eq_true rfl) (pH_k (fun v_95 hG_95 => ?_))
                    refine g_istore_n F [(3, .int (J (if 0 ≤ (aO (unL z) s) then 1 else 0))), (0, .ref (ad 8 (0))), (1, .int (J (r))), (2, .int (J ((evZ z (ln (fnL (unU z)) s) ((unL z : Nat) : Int)).1))), (5, .int (J (j)))] dX8_order_98 rfl (by decide) rfl ?_
                    refine g_goto F 29 dX8_order_99 rfl ?_
                    refine g_sub [1, 2, 3, 0] (lv' := [(0, .ref (ad 8 (0))), (1, .int (J (r))), (2, .int (J ((evZ z (ln (fnL (unU z)) s) ((unL z : Nat) : Int)).1))), (3, .int (J (if 0 ≤ (aO (unL z) s) then 1 else 0)))]) rfl ?_
                    exact ih29 (v_95) (t) ((evZ z (ln (fnL (unU z)) s) ((unL z : Nat) : Int)).1) ((s.map (fnL (unU z)))) (if 0 ≤ (aO (unL z) s) then 1 else 0) (by first | exact ORP_x (ORP_w hw hG_34) hG_95.1 | (have ej : j = ((unL z : Nat) : Int) := (by omega); subst ej; exact ORP_x (ORP_t (ORP_w hw hG_34) ⟨hevr.1.1, hv7⟩ hu6 (fun _ => rfl) hl6) hG_95.1)) (hol _ _ hG_95) (by first | exact hst2.2 (by omega) | exact hst2.1 (by omega)) (by omega)
                  · skip
                    refine g_aload_n F dX8_order_69 rfl 0 rfl ?_
                    refine gg_Model_items F fk_X8_28 dX8_order_70 ?_
                    refine g_bipush F dX8_order_73 (40) (by decide) ?_
                    refine g_iload_n F dX8_order_75 rfl 1 rfl ?_
                    refine g_imul F dX8_order_76 ?_
                    refine g_iload F dX8_order_77 3 rfl ?_
                    refine g_iadd F dX8_order_79 ?_
                    refine g_aload_n F dX8_order_80 rfl 0 rfl ?_
                    refine gg_Model_line F fk_X8_50 dX8_order_81 ?_
                    refine g_iload F dX8_order_84 3 rfl ?_
                    refine ga_52 F (by omega) dX8_order_86 ?_
                    refine g_topi (b := (ln (fnL (unU z)) s) j) (by rw [itY_k _ _ _ _ (by decide), mkY_k _ _ _ (by decide) (by decide)]; exact (congrFun (hG_34.1 52 (by decide)) j).trans (hsl j (by omega) (by omega))) ?_
                    refine gs_46 F (by omega) dX8_order_87 ?_
                    refine g_iinc F [(5, .int (J (j + 1))), (0, .ref (ad 8 (0))), (1, .int (J (r))), (2, .int (J ((evZ z (ln (fnL (unU z)) s) ((unL z : Nat) : Int)).1)))] 3 rfl dX8_order_88 (by decide) rfl ?_
                    refine g_goto F 60 dX8_order_91 rfl ?_
                    refine g_sub [1, 2, 3, 0] (lv' := [(0, .ref (ad 8 (0))), (1, .int (J (r))), (2, .int (J ((evZ z (ln (fnL (unU z)) s) ((unL z : Nat) : Int)).1))), (5, .int (J (j + 1)))]) rfl ?_
                    exact gW_eq (ih60 (j + 1) (by omega) (by omega)) rfl rfl rfl (rfl) (itY_s _ _ _ hj.1)
              refine g_sub [3, 4, 1, 0] (lv' := [(0, .ref (ad 8 (0))), (1, .int (J (r))), (2, .int (J ((evZ z ((ln (fnL (unU z)) s)) (((unL z : Nat) : Int))).1))), (5, .int (J (0)))]) rfl ?_
              exact gW_eq (L60 _ (0) (by omega) (Nat.lt_succ_self _)) rfl rfl rfl (rfl) ((itY_0 _ _ _).symm)
      refine g_sub [2, 3, 1, 0] (lv' := [(0, .ref (ad 8 (0))), (1, .int (J (r))), (2, .int (J (999))), (3, .int (J (1)))]) rfl ?_
      exact L29 _ (v_24) (aLL z) (999) ([]) (1) (ORP_0 hG_24) (OLN_i hG_24 hu6n) (ord_999 hN hu6n) (Nat.lt_succ_self _)
    · skip
      refine g_bipush F dX8_order_16 (-4) (by decide) ?_
      exact g_ireturn F hR dX8_order_18 (pH_z (by first | (rw [odA (by omega)]; done) | (rw [odB (by omega) (by omega)]; done) | (rw [odC (by omega) (by omega), ← hfin])) (by first | (rw [odA (by omega)]; exact hRel) | (rw [odB (by omega) (by omega)]; exact hRel) | (rw [odC (by omega) (by omega)]; exact OR_end hRel (by omega) hw hfin)) rfl)
  · skip
    refine g_iconst F dX8_order_7 (-1) (by decide) ?_
    exact g_ireturn F hR dX8_order_8 (pH_z (by first | (rw [odA (by omega)]; done) | (rw [odB (by omega) (by omega)]; done) | (rw [odC (by omega) (by omega), ← hfin])) (by first | (rw [odA (by omega)]; exact hRel) | (rw [odB (by omega) (by omega)]; exact hRel) | (rw [odC (by omega) (by omega)]; exact OR_end hRel (by omega) hw hfin)) rfl)
