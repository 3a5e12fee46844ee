set_option maxHeartbeats 1000000 in
set_option maxRecDepth 20000 in
theorem law_G {Θ : gT} {l : Launch} {D : gD} {ad : gA} {b : Nat} {z : gX} {bg t xx fo : Int} {u : gX} {y : gY} (F : gF Θ l D ad cL_law RL 37 20) (hz : INV z) (hn : 1 ≤ z 10 0 0) (h16 : z 16 0 0 ≤ 9) (A : KP z u u) (hp : PG z y) (kk : ∀ v : gX, KP z v v → gW Θ l D ad 37 1725 [(0, .ref b), (1, .ref (ad 7 (0))), (2, .ref (ad 41 (0))), (3, .ref (ad 42 (0))), (4, .ref (ad 43 (0))), (5, .int (J (z 10 0 0))), (6, .long (Lg (bg))), (8, .int (J (t))), (9, .int (J (xx))), (10, .int (J (z 16 0 0))), (11, .int (J (z 15 0 0))), (12, .int (J (trU z))), (13, .int (J (tcU z))), (14, .int (J (twU z))), (15, .int (J (cmB z))), (16, .int (J (clB z))), (17, .int (J (fo)))] [] v y) : gW Θ l D ad 37 1590 [(0, .ref b), (1, .ref (ad 7 (0))), (2, .ref (ad 41 (0))), (3, .ref (ad 42 (0))), (4, .ref (ad 43 (0))), (5, .int (J (z 10 0 0))), (6, .long (Lg (bg))), (8, .int (J (t))), (9, .int (J (xx))), (10, .int (J (z 16 0 0))), (11, .int (J (z 15 0 0))), (12, .int (J (trU z))), (13, .int (J (tcU z))), (14, .int (J (twU z))), (15, .int (J (cmB z))), (16, .int (J (clB z))), (17, .int (J (fo)))] [] u y := by
  have h10 := hz.1.2.1
  have h15 := hz.1.2.2.1
  have h160 := hz.2.2.1.1.1
  have htr := trU_r hz.1
  have hcm := cmB_r hz.1
  have hcl := clB_r hz.1
  have htc := tc_r hz.1
  have htw := tw_r hz.1
  refine g_iload F dL_law_1590 8 rfl ?_
  refine g_bipush F dL_law_1592 (7) (by decide) ?_
  refine g_ishr F dL_law_1594 (shZ xx 7) (J_sh xx 7) ?_
  refine g_iload F dL_law_1595 5 rfl ?_
  refine g_callS 2 F (As := [.int (J (shZ xx 7)), .int (J (z 10 0 0))]) (st := []) (c_L_low l D ad u y (shZ xx 7) (z 10 0 0) (by omega)) rfl mk_L_15 ki_L_low kc_L_low (by decide +kernel) rfl (by decide) dL_law_1597 rfl (Nat.le_of_ble_eq_true rfl) (pI_k ?_)
  refine g_nmi (P := fun on => 0 ≤ on ∧ on < z 10 0 0) (lwZ_r (by omega)) (fun on h_on => ?_)
  have rv := vU_r z on (z 15 0 0)
  have hm := hz.1.2.2.2 on h_on.1 h_on.2
  refine g_istore F [(33, .int (J (on))), (0, .ref b), (1, .ref (ad 7 (0))), (2, .ref (ad 41 (0))), (3, .ref (ad 42 (0))), (4, .ref (ad 43 (0))), (5, .int (J (z 10 0 0))), (6, .long (Lg (bg))), (8, .int (J (t))), (9, .int (J (xx))), (10, .int (J (z 16 0 0))), (11, .int (J (z 15 0 0))), (12, .int (J (trU z))), (13, .int (J (tcU z))), (14, .int (J (twU z))), (15, .int (J (cmB z))), (16, .int (J (clB z))), (17, .int (J (fo)))] dL_law_1600 (by decide) rfl ?_
  refine g_aload_n F dL_law_1602 rfl 2 rfl ?_
  refine g_iconst F dL_law_1603 (4) (by decide) ?_
  refine g_iconst F dL_law_1604 (2) (by decide) ?_
  refine g_callV 2 F (As := [.int (J (4)), .int (J (2))]) (st := []) (c_X7_row l D ad u y (4) (2) (by omega) (by omega) (KP_I A)) (gR_7) rfl mk_L_141 ki_X7_row kc_X7_row (by decide +kernel) rfl (by decide) dL_law_1605 rfl (Nat.le_of_ble_eq_true rfl) (pI_k ?_)
  refine g_topi (b := 2) ((row_k A (R := 4) (n := 2) (by decide) (by decide)).1) ?_
  refine g_nm (P := fun u_1605 => KP z u_1605 u_1605 ∧ u_1605 17 4 0 = 2) ((row_k A (R := 4) (n := 2) (by decide) (by decide)).2) (fun u_1605 ⟨A_u_1605, w17⟩ => ?_)
  refine g_iconst F dL_law_1608 (2) (by decide) ?_
  refine g_icmp_ne 1656 F dL_law_1609 (by decide) (by decide) rfl (fun c_1 => ?_) (fun c_1 => ?_)
  · skip
    exact absurd c_1 (by decide)
  · skip
    refine g_aload_n F dL_law_1612 rfl 2 rfl ?_
    refine g_iconst F dL_law_1613 (4) (by decide) ?_
    refine g_iconst F dL_law_1614 (0) (by decide) ?_
    refine g_iload F dL_law_1615 11 rfl ?_
    refine g_callV 3 F (As := [.int (J (4)), .int (J (0)), .int (J (z 15 0 0))]) (st := []) (c_X7_lay l D ad u_1605 y (4) (0) (z 15 0 0) (by omega) (by omega) (by omega) (KP_I A_u_1605)) (gR_7) rfl mk_L_144 ki_X7_lay kc_X7_lay (by decide +kernel) rfl (by decide) dL_law_1617 rfl (Nat.le_of_ble_eq_true rfl) (pI_k ?_)
    refine g_topi (b := 1) ((lay_k A_u_1605 (R := 4) (i := 0) (v := z 15 0 0) (by decide) ⟨by decide, by rw [w17]; decide⟩ ⟨by omega, by omega⟩).1) ?_
    refine g_nm (P := fun u_1617 => KP z u_1617 u_1617 ∧ u_1617 17 = u_1605 17 ∧ ∀ j : Int, u_1617 20 4 j = if j = 0 then z 15 0 0 else u_1605 20 4 j) ((lay_k A_u_1605 (R := 4) (i := 0) (v := z 15 0 0) (by decide) ⟨by decide, by rw [w17]; decide⟩ ⟨by omega, by omega⟩).2) (fun u_1617 ⟨A_u_1617, e17, e20⟩ => ?_)
    refine g_iconst F dL_law_1620 (1) (by decide) ?_
    refine g_icmp_ne 1656 F dL_law_1621 (by decide) (by decide) rfl (fun c_2 => ?_) (fun c_2 => ?_)
    · skip
      exact absurd c_2 (by decide)
    · skip
      have L1649 : ∀ (u16 : gX), KP z u_1617 u16 → gW Θ l D ad 37 1649 [(33, .int (J (on))), (0, .ref b), (1, .ref (ad 7 (0))), (2, .ref (ad 41 (0))), (3, .ref (ad 42 (0))), (4, .ref (ad 43 (0))), (5, .int (J (z 10 0 0))), (6, .long (Lg (bg))), (8, .int (J (t))), (9, .int (J (xx))), (10, .int (J (z 16 0 0))), (11, .int (J (z 15 0 0))), (12, .int (J (trU z))), (13, .int (J (tcU z))), (14, .int (J (twU z))), (15, .int (J (cmB z))), (16, .int (J (clB z))), (17, .int (J (fo)))] [.int (J (vU z on (z 15 0 0))), .int (J (1)), .int (J (4)), .ref (ad 7 (0))] u16 y := by
        intro u16 A16
        refine g_callV 3 F (As := [.int (J (4)), .int (J (1)), .int (J (vU z on (z 15 0 0)))]) (st := []) (c_X7_lay l D ad u16 y (4) (1) (vU z on (z 15 0 0)) (by omega) (by omega) (by omega) (KP_I A16)) (gR_7) rfl mk_L_144 ki_X7_lay kc_X7_lay (by decide +kernel) rfl (by decide) dL_law_1649 rfl (Nat.le_of_ble_eq_true rfl) (pI_k ?_)
        refine g_topi (b := 1) ((lay_k A16 (R := 4) (i := 1) (v := vU z on (z 15 0 0)) (by decide) ⟨by decide, by rw [A16.2.1, e17, w17]; decide⟩ ⟨by omega, by omega⟩).1) ?_
        refine g_nm (P := fun u_1649 => KP z u_1649 u_1649 ∧ u_1649 17 = u16 17 ∧ ∀ j : Int, u_1649 20 4 j = if j = 1 then vU z on (z 15 0 0) else u16 20 4 j) ((lay_k A16 (R := 4) (i := 1) (v := vU z on (z 15 0 0)) (by decide) ⟨by decide, by rw [A16.2.1, e17, w17]; decide⟩ ⟨by omega, by omega⟩).2) (fun u_1649 ⟨A_u_1649, f17, f20⟩ => ?_)
        have q17 : u_1649 17 4 0 = 2 := by rw [f17, A16.2.1, e17]; exact w17
        have q0 : u_1649 20 4 0 = z 15 0 0 := by rw [f20, if_neg (by decide), A16.2.2, e20, if_pos rfl]
        have q1 : u_1649 20 4 1 = vU z on (z 15 0 0) := by rw [f20, if_pos rfl]
        refine g_iconst F dL_law_1652 (1) (by decide) ?_
        refine g_icmp_eq 1658 F dL_law_1653 (by decide) (by decide) rfl (fun c_3 => ?_) (fun c_3 => ?_)
        · skip
          refine g_aload_n F dL_law_1658 rfl 2 rfl ?_
          refine g_iload F dL_law_1659 0 rfl ?_
          refine g_iconst F dL_law_1661 (4) (by decide) ?_
          refine g_callV 2 F (As := [.int (J (on)), .int (J (4))]) (st := []) (c_X7_hands l D ad u_1649 y (on) (4) (by omega) (by omega) (KP_I A_u_1649)) (gR_7) rfl mk_L_159 ki_X7_hands kc_X7_hands (by decide +kernel) rfl (by decide) dL_law_1662 rfl (Nat.le_of_ble_eq_true rfl) (pG_k (fun u_1662 hG_1662 => ?_))
          have HH := (hnd_k A_u_1649 (i := on) h_on.1 h_on.2 h15 q17 q0 q1)
          rw [HH.2] at hG_1662
          have A_u_1662 := KP_xG A_u_1649 hG_1662
          refine g_nmi (P := fun hv => (0 ≤ hv ∧ hv ≤ 1023) ∧ hv / p2 (z 4 on 0) % 2 = 1) (HH.1) (fun hv h_hv => ?_)
          have hvr := h_hv.1
          refine g_istore F [(34, .int (J (hv))), (33, .int (J (on))), (0, .ref b), (1, .ref (ad 7 (0))), (2, .ref (ad 41 (0))), (3, .ref (ad 42 (0))), (4, .ref (ad 43 (0))), (5, .int (J (z 10 0 0))), (6, .long (Lg (bg))), (8, .int (J (t))), (9, .int (J (xx))), (10, .int (J (z 16 0 0))), (11, .int (J (z 15 0 0))), (12, .int (J (trU z))), (13, .int (J (tcU z))), (14, .int (J (twU z))), (15, .int (J (cmB z))), (16, .int (J (clB z))), (17, .int (J (fo)))] dL_law_1665 (by decide) rfl ?_
          refine g_aload_n F dL_law_1667 rfl 3 rfl ?_
          refine g_iload F dL_law_1668 1 rfl ?_
          refine g_iconst F dL_law_1670 (4) (by decide) ?_
          refine g_callV 2 F (As := [.int (J (on)), .int (J (4))]) (st := []) (c_X7_kinds l D ad u_1662 y (on) (4) (by omega) (by omega) (KP_I A_u_1662)) (gR_7) rfl mk_L_162 ki_X7_kinds kc_X7_kinds (by decide +kernel) rfl (by decide) dL_law_1671 rfl (Nat.le_of_ble_eq_true rfl) (pG_k (fun u_1671 hG_1671 => ?_))
          have HQ := (knd_k A_u_1662 (i := on) h_on.1 h_on.2 h15 q17 q0 q1)
          rw [HQ.2] at hG_1671
          have A_u_1671 := KP_xG A_u_1662 hG_1671
          refine g_nmi (P := fun kv => (0 ≤ kv ∧ kv ≤ 63) ∧ kv / p2 (z 1 on 0) % 2 = 1) (HQ.1) (fun kv h_kv => ?_)
          have kvr := h_kv.1
          refine g_istore F [(35, .int (J (kv))), (34, .int (J (hv))), (33, .int (J (on))), (0, .ref b), (1, .ref (ad 7 (0))), (2, .ref (ad 41 (0))), (3, .ref (ad 42 (0))), (4, .ref (ad 43 (0))), (5, .int (J (z 10 0 0))), (6, .long (Lg (bg))), (8, .int (J (t))), (9, .int (J (xx))), (10, .int (J (z 16 0 0))), (11, .int (J (z 15 0 0))), (12, .int (J (trU z))), (13, .int (J (tcU z))), (14, .int (J (twU z))), (15, .int (J (cmB z))), (16, .int (J (clB z))), (17, .int (J (fo)))] dL_law_1674 (by decide) rfl ?_
          refine g_iload F dL_law_1676 1 rfl ?_
          refine g_aload_n F dL_law_1678 rfl 5 rfl ?_
          refine g_bipush F dL_law_1679 (23) (by decide) ?_
          refine g_iload F dL_law_1681 2 rfl ?_
          refine g_iadd F dL_law_1683 ?_
          refine ga_41 F (by omega) dL_law_1684 ?_
          refine g_topi (b := z 4 on 0) (pg_h hp h_on.1 h_on.2) ?_
          refine g_ishr F dL_law_1685 (hv / p2 (z 4 on 0)) (J_shr ⟨by omega, by omega⟩ ⟨by omega, by omega⟩) ?_
          refine g_iconst F dL_law_1686 (1) (by decide) ?_
          refine g_iand F dL_law_1687 (1) (by rw [J_bt ⟨by omega, by omega⟩ ⟨by omega, by omega⟩, h_hv.2]) ?_
          refine g_iconst F dL_law_1688 (1) (by decide) ?_
          refine g_icmp_ne 1723 F dL_law_1689 (by decide) (by decide) rfl (fun c_4 => ?_) (fun c_4 => ?_)
          · skip
            exact absurd c_4 (by decide)
          · skip
            refine g_iload F dL_law_1692 1 rfl ?_
            refine g_sipush F dL_law_1694 (1023) (by decide) ?_
            refine g_icmp_gt 1723 F dL_law_1697 (by omega) (by decide) rfl (fun c_5 => ?_) (fun c_5 => ?_)
            · skip
              exfalso; omega
            · skip
              refine g_iload F dL_law_1700 0 rfl ?_
              refine g_aload_n F dL_law_1702 rfl 4 rfl ?_
              refine g_iload F dL_law_1703 2 rfl ?_
              refine g_iconst F dL_law_1705 (0) (by decide) ?_
              refine g_callS 3 F (As := [.ref (ad 7 (0)), .int (J (on)), .int (J (0))]) (st := [.int (J (kv))]) (c_L_tell l D ad u_1671 y (on) (0) (KP_I A_u_1671) (⟨by omega, by rw [KP_10 A_u_1671]; omega⟩) (by omega)) rfl mk_L_106 ki_L_tell kc_L_tell (by decide +kernel) rfl (by decide) dL_law_1706 rfl (Nat.le_of_ble_eq_true rfl) (pI_k ?_)
              refine g_topi (b := z 1 (on) 0) (td0 A_u_1671 (by omega) (by omega)) ?_
              refine g_nm (P := fun u_1706 => KP z u_1649 u_1706) (KP_tell A_u_1671 _) (fun u_1706 A_u_1706 => ?_)
              refine g_ishr F dL_law_1709 (kv / p2 (z 1 on 0)) (J_shr ⟨by omega, by omega⟩ ⟨by omega, by omega⟩) ?_
              refine g_iconst F dL_law_1710 (1) (by decide) ?_
              refine g_iand F dL_law_1711 (1) (by rw [J_bt ⟨by omega, by omega⟩ ⟨by omega, by omega⟩, h_kv.2]) ?_
              refine g_iconst F dL_law_1712 (1) (by decide) ?_
              refine g_icmp_ne 1723 F dL_law_1713 (by decide) (by decide) rfl (fun c_6 => ?_) (fun c_6 => ?_)
              · skip
                exact absurd c_6 (by decide)
              · skip
                refine g_iload F dL_law_1716 0 rfl ?_
                refine g_bipush F dL_law_1718 (63) (by decide) ?_
                refine g_icmp_le 1725 F dL_law_1720 (by omega) (by decide) rfl (fun c_7 => ?_) (fun c_7 => ?_)
                · skip
                  refine g_sub [3, 4, 5, 6, 7, 8, 9, 10, 11, 12, 13, 14, 15, 16, 17, 18, 19] (lv' := [(0, .ref b), (1, .ref (ad 7 (0))), (2, .ref (ad 41 (0))), (3, .ref (ad 42 (0))), (4, .ref (ad 43 (0))), (5, .int (J (z 10 0 0))), (6, .long (Lg (bg))), (8, .int (J (t))), (9, .int (J (xx))), (10, .int (J (z 16 0 0))), (11, .int (J (z 15 0 0))), (12, .int (J (trU z))), (13, .int (J (tcU z))), (14, .int (J (twU z))), (15, .int (J (cmB z))), (16, .int (J (clB z))), (17, .int (J (fo)))]) rfl ?_
                  exact kk _ (KP_re A_u_1706)
                · skip
                  exfalso; omega
        · skip
          exact absurd c_3 (by decide)
      refine g_aload_n F dL_law_1624 rfl 2 rfl ?_
      refine g_iconst F dL_law_1625 (4) (by decide) ?_
      refine g_iconst F dL_law_1626 (1) (by decide) ?_
      refine g_aload_n F dL_law_1627 rfl 2 rfl ?_
      refine g_iload F dL_law_1628 0 rfl ?_
      refine g_iconst F dL_law_1630 (5) (by decide) ?_
      refine g_callS 3 F (As := [.ref (ad 7 (0)), .int (J (on)), .int (J (5))]) (st := [.int (J (1)), .int (J (4)), .ref (ad 7 (0))]) (c_L_tell l D ad u_1617 y (on) (5) (KP_I A_u_1617) (⟨by omega, by rw [KP_10 A_u_1617]; omega⟩) (by omega)) rfl mk_L_106 ki_L_tell kc_L_tell (by decide +kernel) rfl (by decide) dL_law_1631 rfl (Nat.le_of_ble_eq_true rfl) (pI_k ?_)
      refine g_topi (b := if cU z (on) (z 15 0 0) then 1 else 0) (td5 A_u_1617 (by omega) (by omega)) ?_
      refine g_nm (P := fun u_1631 => KP z u_1617 u_1631) (KP_tell A_u_1617 _) (fun u_1631 A_u_1631 => ?_)
      refine g_ifb_ne 1641 F dL_law_1634 rfl (fun c_8 => ?_) (fun c_8 => ?_)
      · skip
        have hcc := c_8
        refine g_aload_n F dL_law_1641 rfl 2 rfl ?_
        refine g_iload F dL_law_1642 0 rfl ?_
        refine g_bipush F dL_law_1644 (6) (by decide) ?_
        refine g_callS 3 F (As := [.ref (ad 7 (0)), .int (J (on)), .int (J (6))]) (st := [.int (J (1)), .int (J (4)), .ref (ad 7 (0))]) (c_L_tell l D ad u_1631 y (on) (6) (KP_I A_u_1631) (⟨by omega, by rw [KP_10 A_u_1631]; omega⟩) (by omega)) rfl mk_L_106 ki_L_tell kc_L_tell (by decide +kernel) rfl (by decide) dL_law_1646 rfl (Nat.le_of_ble_eq_true rfl) (pI_k ?_)
        refine g_topi (b := vU z on (z 15 0 0)) (td6v A_u_1631 (by omega) (by omega) hcc) ?_
        refine g_nm (P := fun u_1646 => KP z u_1617 u_1646) (KP_tell A_u_1631 _) (fun u_1646 A_u_1646 => ?_)
        exact L1649 (u_1646) (A_u_1646)
      · skip
        have hcc := c_8
        refine g_iconst F dL_law_1637 (2) (by decide) ?_
        refine g_topi (b := vU z on (z 15 0 0)) (vU_c hcc) ?_
        refine g_goto F 1649 dL_law_1638 rfl ?_
        exact L1649 (u_1631) (A_u_1631)
set_option maxHeartbeats 1000000 in
set_option maxRecDepth 20000 in
theorem law_H {Θ : gT} {l : Launch} {D : gD} {ad : gA} {b : Nat} {z : gX} {bg t xx fo : Int} {u : gX} {y : gY} (F : gF Θ l D ad cL_law RL 37 20) (hz : INV z) (hn : 1 ≤ z 10 0 0) (h16 : z 16 0 0 ≤ 9) (A : KP z u u) (hfo : fo = foU z (z 15 0 0)) (kk : ∀ v : gX, KP z v v → gW Θ l D ad 37 1894 [(0, .ref b), (1, .ref (ad 7 (0))), (2, .ref (ad 41 (0))), (3, .ref (ad 42 (0))), (4, .ref (ad 43 (0))), (5, .int (J (z 10 0 0))), (6, .long (Lg (bg))), (8, .int (J (t))), (9, .int (J (xx))), (10, .int (J (z 16 0 0))), (11, .int (J (z 15 0 0))), (12, .int (J (trU z))), (13, .int (J (tcU z))), (14, .int (J (twU z))), (15, .int (J (cmB z))), (16, .int (J (clB z))), (17, .int (J (fo)))] [] v y) : gW Θ l D ad 37 1725 [(0, .ref b), (1, .ref (ad 7 (0))), (2, .ref (ad 41 (0))), (3, .ref (ad 42 (0))), (4, .ref (ad 43 (0))), (5, .int (J (z 10 0 0))), (6, .long (Lg (bg))), (8, .int (J (t))), (9, .int (J (xx))), (10, .int (J (z 16 0 0))), (11, .int (J (z 15 0 0))), (12, .int (J (trU z))), (13, .int (J (tcU z))), (14, .int (J (twU z))), (15, .int (J (cmB z))), (16, .int (J (clB z))), (17, .int (J (fo)))] [] u y := by
  have h10 := hz.1.2.1
  have h15 := hz.1.2.2.1
  have h160 := hz.2.2.1.1.1
  have htr := trU_r hz.1
  have hcm := cmB_r hz.1
  have hcl := clB_r hz.1
  have htc := tc_r hz.1
  have htw := tw_r hz.1
  have d0 := dw_0 z
  have d1 := dw_1 z
  have d2 := dw_2 z
  have d3 := dw_3 z
  have d4 := dw_4 z
  have e0 := dw_f hz.1 0
  have e1 := dw_f hz.1 1
  have e2 := dw_f hz.1 2
  have e3 := dw_f hz.1 3
  have e4 := dw_f hz.1 4
  have e6 := dw_f hz.1 6
  rw [← hfo] at d0 d1
  have pr := pc_r (clB z)
  refine g_aload_n F dL_law_1725 rfl 1 rfl ?_
  refine g_iconst F dL_law_1726 (0) (by decide) ?_
  refine g_callV 1 F (As := [.int (J (0))]) (st := []) (c_X7_duel l D ad u y (0) (by omega) (KP_I A)) (gR_7) rfl mk_L_165 ki_X7_duel kc_X7_duel (by decide +kernel) rfl (by decide) dL_law_1727 rfl (Nat.le_of_ble_eq_true rfl) (pG_k (fun u_1727 hG_1727 => ?_))
  refine g_topi (b := dwZ z (0)) ((du_k A hn (by decide) hG_1727).1) ?_
  have A_u_1727 := (du_k A hn (by decide) hG_1727).2
  refine g_iload F dL_law_1730 16 rfl ?_
  refine g_icmp_ne 1795 F dL_law_1732 (by omega) (by omega) rfl (fun c_1 => ?_) (fun c_1 => ?_)
  · skip
    exfalso; omega
  · skip
    refine g_aload_n F dL_law_1735 rfl 1 rfl ?_
    refine g_iconst F dL_law_1736 (1) (by decide) ?_
    refine g_callV 1 F (As := [.int (J (1))]) (st := []) (c_X7_duel l D ad u_1727 y (1) (by omega) (KP_I A_u_1727)) (gR_7) rfl mk_L_165 ki_X7_duel kc_X7_duel (by decide +kernel) rfl (by decide) dL_law_1737 rfl (Nat.le_of_ble_eq_true rfl) (pG_k (fun u_1737 hG_1737 => ?_))
    refine g_topi (b := dwZ z (1)) ((du_k A_u_1727 hn (by decide) hG_1737).1) ?_
    have A_u_1737 := (du_k A_u_1727 hn (by decide) hG_1737).2
    refine g_iload F dL_law_1740 16 rfl ?_
    refine g_icmp_gt 1795 F dL_law_1742 (by omega) (by omega) rfl (fun c_2 => ?_) (fun c_2 => ?_)
    · skip
      exfalso; omega
    · skip
      refine g_aload_n F dL_law_1745 rfl 1 rfl ?_
      refine g_iconst F dL_law_1746 (2) (by decide) ?_
      refine g_callV 1 F (As := [.int (J (2))]) (st := []) (c_X7_duel l D ad u_1737 y (2) (by omega) (KP_I A_u_1737)) (gR_7) rfl mk_L_165 ki_X7_duel kc_X7_duel (by decide +kernel) rfl (by decide) dL_law_1747 rfl (Nat.le_of_ble_eq_true rfl) (pG_k (fun u_1747 hG_1747 => ?_))
      refine g_topi (b := dwZ z (2)) ((du_k A_u_1737 hn (by decide) hG_1747).1) ?_
      have A_u_1747 := (du_k A_u_1737 hn (by decide) hG_1747).2
      refine g_aload_n F dL_law_1750 rfl 1 rfl ?_
      refine g_iconst F dL_law_1751 (1) (by decide) ?_
      refine g_callV 1 F (As := [.int (J (1))]) (st := [.int (J (dwZ z (2)))]) (c_X7_duel l D ad u_1747 y (1) (by omega) (KP_I A_u_1747)) (gR_7) rfl mk_L_165 ki_X7_duel kc_X7_duel (by decide +kernel) rfl (by decide) dL_law_1752 rfl (Nat.le_of_ble_eq_true rfl) (pG_k (fun u_1752 hG_1752 => ?_))
      refine g_topi (b := dwZ z (1)) ((du_k A_u_1747 hn (by decide) hG_1752).1) ?_
      have A_u_1752 := (du_k A_u_1747 hn (by decide) hG_1752).2
      refine g_icmp_lt 1795 F dL_law_1755 (by omega) (by omega) rfl (fun c_3 => ?_) (fun c_3 => ?_)
      · skip
        exfalso; omega
      · skip
        refine g_aload_n F dL_law_1758 rfl 1 rfl ?_
        refine g_iconst F dL_law_1759 (3) (by decide) ?_
        refine g_callV 1 F (As := [.int (J (3))]) (st := []) (c_X7_duel l D ad u_1752 y (3) (by omega) (KP_I A_u_1752)) (gR_7) rfl mk_L_165 ki_X7_duel kc_X7_duel (by decide +kernel) rfl (by decide) dL_law_1760 rfl (Nat.le_of_ble_eq_true rfl) (pG_k (fun u_1760 hG_1760 => ?_))
        refine g_topi (b := dwZ z (3)) ((du_k A_u_1752 hn (by decide) hG_1760).1) ?_
        have A_u_1760 := (du_k A_u_1752 hn (by decide) hG_1760).2
        refine g_aload_n F dL_law_1763 rfl 1 rfl ?_
        refine g_iconst F dL_law_1764 (2) (by decide) ?_
        refine g_callV 1 F (As := [.int (J (2))]) (st := [.int (J (dwZ z (3)))]) (c_X7_duel l D ad u_1760 y (2) (by omega) (KP_I A_u_1760)) (gR_7) rfl mk_L_165 ki_X7_duel kc_X7_duel (by decide +kernel) rfl (by decide) dL_law_1765 rfl (Nat.le_of_ble_eq_true rfl) (pG_k (fun u_1765 hG_1765 => ?_))
        refine g_topi (b := dwZ z (2)) ((du_k A_u_1760 hn (by decide) hG_1765).1) ?_
        have A_u_1765 := (du_k A_u_1760 hn (by decide) hG_1765).2
        refine g_icmp_gt 1795 F dL_law_1768 (by omega) (by omega) rfl (fun c_4 => ?_) (fun c_4 => ?_)
        · skip
          exfalso; omega
        · skip
          refine g_aload_n F dL_law_1771 rfl 1 rfl ?_
          refine g_iconst F dL_law_1772 (4) (by decide) ?_
          refine g_callV 1 F (As := [.int (J (4))]) (st := []) (c_X7_duel l D ad u_1765 y (4) (by omega) (KP_I A_u_1765)) (gR_7) rfl mk_L_165 ki_X7_duel kc_X7_duel (by decide +kernel) rfl (by decide) dL_law_1773 rfl (Nat.le_of_ble_eq_true rfl) (pG_k (fun u_1773 hG_1773 => ?_))
          refine g_topi (b := dwZ z (4)) ((du_k A_u_1765 hn (by decide) hG_1773).1) ?_
          have A_u_1773 := (du_k A_u_1765 hn (by decide) hG_1773).2
          refine g_aload_n F dL_law_1776 rfl 1 rfl ?_
          refine g_iconst F dL_law_1777 (3) (by decide) ?_
          refine g_callV 1 F (As := [.int (J (3))]) (st := [.int (J (dwZ z (4)))]) (c_X7_duel l D ad u_1773 y (3) (by omega) (KP_I A_u_1773)) (gR_7) rfl mk_L_165 ki_X7_duel kc_X7_duel (by decide +kernel) rfl (by decide) dL_law_1778 rfl (Nat.le_of_ble_eq_true rfl) (pG_k (fun u_1778 hG_1778 => ?_))
          refine g_topi (b := dwZ z (3)) ((du_k A_u_1773 hn (by decide) hG_1778).1) ?_
          have A_u_1778 := (du_k A_u_1773 hn (by decide) hG_1778).2
          refine g_icmp_lt 1795 F dL_law_1781 (by omega) (by omega) rfl (fun c_5 => ?_) (fun c_5 => ?_)
          · skip
            exfalso; omega
          · skip
            refine g_aload_n F dL_law_1784 rfl 1 rfl ?_
            refine g_bipush F dL_law_1785 (6) (by decide) ?_
            refine g_callV 1 F (As := [.int (J (6))]) (st := []) (c_X7_duel l D ad u_1778 y (6) (by omega) (KP_I A_u_1778)) (gR_7) rfl mk_L_165 ki_X7_duel kc_X7_duel (by decide +kernel) rfl (by decide) dL_law_1787 rfl (Nat.le_of_ble_eq_true rfl) (pG_k (fun u_1787 hG_1787 => ?_))
            refine g_topi (b := dwZ z (6)) ((du_k A_u_1778 hn (by decide) hG_1787).1) ?_
            have A_u_1787 := (du_k A_u_1778 hn (by decide) hG_1787).2
            refine g_iload F dL_law_1790 5 rfl ?_
            refine g_icmp_le 1797 F dL_law_1792 (by omega) (by omega) rfl (fun c_6 => ?_) (fun c_6 => ?_)
            · skip
              refine g_aload_n F dL_law_1797 rfl 1 rfl ?_
              refine g_iconst F dL_law_1798 (0) (by decide) ?_
              refine g_callV 1 F (As := [.int (J (0))]) (st := []) (c_X7_mid l D ad u_1787 y (0) (by omega) (KP_I A_u_1787)) (gR_7) rfl mk_L_168 ki_X7_mid kc_X7_mid (by decide +kernel) rfl (by decide) dL_law_1799 rfl (Nat.le_of_ble_eq_true rfl) (pI_k ?_)
              refine g_topi (b := 1) ((mi_k A_u_1787 hn (Or.inl rfl)).1) ?_
              refine g_nm (P := fun u_1799 => KP z u u_1799 ∧ (0 ≤ u_1799 8 0 0 ∧ u_1799 8 0 0 ≤ pcZ (clB z)) ∧ ((0 : Int) = 0 → u_1799 8 0 0 = pcZ (clB z)) ∧ u_1799 9 0 0 = 1) ((mi_k A_u_1787 hn (Or.inl rfl)).2) (fun u_1799 ⟨A_u_1799, M1, M2, M3⟩ => ?_)
              refine g_iconst F dL_law_1802 (1) (by decide) ?_
              refine g_icmp_ne 1892 F dL_law_1803 (by decide) (by decide) rfl (fun c_7 => ?_) (fun c_7 => ?_)
              · skip
                exact absurd c_7 (by decide)
              · skip
                refine g_aload_n F dL_law_1806 rfl 1 rfl ?_
                refine g_callV 0 F (As := []) (st := []) (c_X7_upper l D ad u_1799 y  ) (gR_7) rfl mk_L_123 ki_X7_upper kc_X7_upper (by decide +kernel) rfl (by decide) dL_law_1807 rfl (Nat.le_of_ble_eq_true rfl) (pL_k ?_)
                refine g_topl (b := pcZ (clB z)) (M2 rfl) ?_
                refine g_iload F dL_law_1810 15 rfl ?_
                refine g_callS 1 F (As := [.int (J (clB z))]) (st := [.long (Lg (pcZ (clB z)))]) (c_L_bits l D ad u_1799 y (clB z) (by omega)) rfl mk_L_132 ki_L_bits kc_L_bits (by decide +kernel) rfl (by decide) dL_law_1812 rfl (Nat.le_of_ble_eq_true rfl) (pI_k ?_)
                refine g_i2l F dL_law_1815 (by omega) ?_
                refine g_lcmp_ne 1892 F dL_law_1816 dL_law_1817 (by omega) (by omega) rfl (fun c_8 => ?_) (fun c_8 => ?_)
                · skip
                  exfalso; omega
                · skip
                  refine g_aload_n F dL_law_1820 rfl 1 rfl ?_
                  refine g_callV 0 F (As := []) (st := []) (c_X7_lower l D ad u_1799 y  ) (gR_7) rfl mk_L_126 ki_X7_lower kc_X7_lower (by decide +kernel) rfl (by decide) dL_law_1821 rfl (Nat.le_of_ble_eq_true rfl) (pL_k ?_)
                  refine g_topl (b := 1) (M3) ?_
                  refine g_lconst F dL_law_1824 1 (by decide) ?_
                  refine g_lcmp_ne 1892 F dL_law_1825 dL_law_1826 (by decide) (by decide) rfl (fun c_9 => ?_) (fun c_9 => ?_)
                  · skip
                    exfalso; omega
                  · skip
                    refine g_aload_n F dL_law_1829 rfl 1 rfl ?_
                    refine g_bipush F dL_law_1830 (12) (by decide) ?_
                    refine g_callV 1 F (As := [.int (J (12))]) (st := []) (c_X7_mid l D ad u_1799 y (12) (by omega) (KP_I A_u_1799)) (gR_7) rfl mk_L_168 ki_X7_mid kc_X7_mid (by decide +kernel) rfl (by decide) dL_law_1832 rfl (Nat.le_of_ble_eq_true rfl) (pI_k ?_)
                    refine g_topi (b := 1) ((mi_k A_u_1799 hn (Or.inr rfl)).1) ?_
                    refine g_nm (P := fun u_1832 => KP z u u_1832 ∧ (0 ≤ u_1832 8 0 0 ∧ u_1832 8 0 0 ≤ pcZ (clB z)) ∧ ((12 : Int) = 0 → u_1832 8 0 0 = pcZ (clB z)) ∧ u_1832 9 0 0 = 1) ((mi_k A_u_1799 hn (Or.inr rfl)).2) (fun u_1832 ⟨A_u_1832, N1, N2, N3⟩ => ?_)
                    refine g_iconst F dL_law_1835 (1) (by decide) ?_
                    refine g_icmp_ne 1892 F dL_law_1836 (by decide) (by decide) rfl (fun c_10 => ?_) (fun c_10 => ?_)
                    · skip
                      exact absurd c_10 (by decide)
                    · skip
                      refine g_aload_n F dL_law_1839 rfl 1 rfl ?_
                      refine g_callV 0 F (As := []) (st := []) (c_X7_upper l D ad u_1832 y  ) (gR_7) rfl mk_L_123 ki_X7_upper kc_X7_upper (by decide +kernel) rfl (by decide) dL_law_1840 rfl (Nat.le_of_ble_eq_true rfl) (pL_k ?_)
                      refine g_iload F dL_law_1843 15 rfl ?_
                      refine g_callS 1 F (As := [.int (J (clB z))]) (st := [.long (Lg (u_1832 8 0 0))]) (c_L_bits l D ad u_1832 y (clB z) (by omega)) rfl mk_L_132 ki_L_bits kc_L_bits (by decide +kernel) rfl (by decide) dL_law_1845 rfl (Nat.le_of_ble_eq_true rfl) (pI_k ?_)
                      refine g_i2l F dL_law_1848 (by omega) ?_
                      refine g_lcmp_gt 1892 F dL_law_1849 dL_law_1850 (by omega) (by omega) rfl (fun c_11 => ?_) (fun c_11 => ?_)
                      · skip
                        exfalso; omega
                      · skip
                        refine g_aload_n F dL_law_1853 rfl 1 rfl ?_
                        refine g_iload F dL_law_1854 8 rfl ?_
                        refine g_bipush F dL_law_1856 (11) (by decide) ?_
                        refine g_ishr F dL_law_1858 (shZ xx 11) (J_sh xx 11) ?_
                        refine g_bipush F dL_law_1859 (13) (by decide) ?_
                        refine g_callS 2 F (As := [.int (J (shZ xx 11)), .int (J (13))]) (st := [.ref (ad 7 (0))]) (c_L_low l D ad u_1832 y (shZ xx 11) (13) (by omega)) rfl mk_L_15 ki_L_low kc_L_low (by decide +kernel) rfl (by decide) dL_law_1861 rfl (Nat.le_of_ble_eq_true rfl) (pI_k ?_)
                        refine g_nmi (P := fun pp => 0 ≤ pp ∧ pp < 13) (lwZ_r (by decide)) (fun pp h_pp => ?_)
                        refine g_callV 1 F (As := [.int (J (pp))]) (st := []) (c_X7_odds l D ad u_1832 y (pp) (by omega) (KP_I A_u_1832)) (gR_7) rfl mk_L_150 ki_X7_odds kc_X7_odds (by decide +kernel) rfl (by decide) dL_law_1864 rfl (Nat.le_of_ble_eq_true rfl) (pI_k ?_)
                        refine g_topi (b := 1) ((od_k A_u_1832 hn (p := pp) ⟨by omega, by omega⟩).1) ?_
                        refine g_nm (P := fun u_1864 => KP z u u_1864 ∧ (0 ≤ u_1864 8 0 0 ∧ u_1864 8 0 0 ≤ u_1864 9 0 0) ∧ u_1864 9 0 0 ≤ 4000000) ((od_k A_u_1832 hn (p := pp) ⟨by omega, by omega⟩).2) (fun u_1864 ⟨A_u_1864, T_u_1864⟩ => ?_)
                        refine g_iconst F dL_law_1867 (1) (by decide) ?_
                        refine g_icmp_ne 1892 F dL_law_1868 (by decide) (by decide) rfl (fun c_12 => ?_) (fun c_12 => ?_)
                        · skip
                          exact absurd c_12 (by decide)
                        · skip
                          refine g_aload_n F dL_law_1871 rfl 1 rfl ?_
                          refine g_callV 0 F (As := []) (st := []) (c_X7_upper l D ad u_1864 y  ) (gR_7) rfl mk_L_123 ki_X7_upper kc_X7_upper (by decide +kernel) rfl (by decide) dL_law_1872 rfl (Nat.le_of_ble_eq_true rfl) (pL_k ?_)
                          refine g_lconst F dL_law_1875 0 (by decide) ?_
                          refine g_lcmp_lt 1892 F dL_law_1876 dL_law_1877 (by omega) (by decide) rfl (fun c_13 => ?_) (fun c_13 => ?_)
                          · skip
                            exfalso; omega
                          · skip
                            refine g_aload_n F dL_law_1880 rfl 1 rfl ?_
                            refine g_callV 0 F (As := []) (st := []) (c_X7_upper l D ad u_1864 y  ) (gR_7) rfl mk_L_123 ki_X7_upper kc_X7_upper (by decide +kernel) rfl (by decide) dL_law_1881 rfl (Nat.le_of_ble_eq_true rfl) (pL_k ?_)
                            refine g_aload_n F dL_law_1884 rfl 1 rfl ?_
                            refine g_callV 0 F (As := []) (st := [.long (Lg (u_1864 8 0 0))]) (c_X7_lower l D ad u_1864 y  ) (gR_7) rfl mk_L_126 ki_X7_lower kc_X7_lower (by decide +kernel) rfl (by decide) dL_law_1885 rfl (Nat.le_of_ble_eq_true rfl) (pL_k ?_)
                            refine g_lcmp_le 1894 F dL_law_1888 dL_law_1889 (by omega) (by omega) rfl (fun c_14 => ?_) (fun c_14 => ?_)
                            · skip
                              refine g_sub [0, 1, 2, 3, 4, 5, 6, 7, 8, 9, 10, 11, 12, 13, 14, 15, 16] (lv' := [(0, .ref b), (1, .ref (ad 7 (0))), (2, .ref (ad 41 (0))), (3, .ref (ad 42 (0))), (4, .ref (ad 43 (0))), (5, .int (J (z 10 0 0))), (6, .long (Lg (bg))), (8, .int (J (t))), (9, .int (J (xx))), (10, .int (J (z 16 0 0))), (11, .int (J (z 15 0 0))), (12, .int (J (trU z))), (13, .int (J (tcU z))), (14, .int (J (twU z))), (15, .int (J (cmB z))), (16, .int (J (clB z))), (17, .int (J (fo)))]) rfl ?_
                              exact kk _ (KP_re A_u_1864)
                            · skip
                              exfalso; omega
            · skip
              exfalso; omega
set_option maxHeartbeats 1000000 in
set_option maxRecDepth 20000 in
theorem law_I {Θ : gT} {l : Launch} {D : gD} {ad : gA} {b : Nat} {z : gX} {bg t xx fo : Int} {u : gX} {y : gY} (F : gF Θ l D ad cL_law RL 37 20) (hz : INV z) (hn : 1 ≤ z 10 0 0) (h16 : z 16 0 0 ≤ 9) (A : KP z u u) (kk : ∀ v : gX, KP z v v → gW Θ l D ad 37 1994 [(0, .ref b), (1, .ref (ad 7 (0))), (2, .ref (ad 41 (0))), (3, .ref (ad 42 (0))), (4, .ref (ad 43 (0))), (5, .int (J (z 10 0 0))), (6, .long (Lg (bg))), (8, .int (J (t))), (9, .int (J (xx)))] [] v y) : gW Θ l D ad 37 1894 [(0, .ref b), (1, .ref (ad 7 (0))), (2, .ref (ad 41 (0))), (3, .ref (ad 42 (0))), (4, .ref (ad 43 (0))), (5, .int (J (z 10 0 0))), (6, .long (Lg (bg))), (8, .int (J (t))), (9, .int (J (xx))), (10, .int (J (z 16 0 0))), (11, .int (J (z 15 0 0))), (12, .int (J (trU z))), (13, .int (J (tcU z))), (14, .int (J (twU z))), (15, .int (J (cmB z))), (16, .int (J (clB z))), (17, .int (J (fo)))] [] u y := by
  have h10 := hz.1.2.1
  have h15 := hz.1.2.2.1
  have h160 := hz.2.2.1.1.1
  have htr := trU_r hz.1
  have hcm := cmB_r hz.1
  have hcl := clB_r hz.1
  have htc := tc_r hz.1
  have htw := tw_r hz.1
  refine g_aload_n F dL_law_1894 rfl 1 rfl ?_
  refine g_iconst F dL_law_1895 (3) (by decide) ?_
  refine g_iconst F dL_law_1896 (1) (by decide) ?_
  refine g_iload F dL_law_1897 8 rfl ?_
  refine g_ldc F ck_L_171 dL_law_1899 (16777215) (by decide) ?_
  refine g_iand F dL_law_1901 (anZ xx 16777215) (J_an xx 16777215) ?_
  refine g_nmi (P := fun sd => 0 ≤ sd ∧ sd ≤ 16777215) (anZ_r (by decide)) (fun sd h_sd => ?_)
  refine g_iadd F dL_law_1902 ?_
  refine g_callV 2 F (As := [.int (J (3)), .int (J ((1) + (sd)))]) (st := []) (c_X7_lots l D ad u y (3) ((1) + (sd)) (by omega) (by omega) (KP_I A)) (gR_7) rfl mk_L_172 ki_X7_lots kc_X7_lots (by decide +kernel) rfl (by decide) dL_law_1903 rfl (Nat.le_of_ble_eq_true rfl) (pI_k ?_)
  refine g_nm (P := fun u_1903 => LK z u (sLots u 3 (1 + sd)).1 u_1903) ((lots_k A (by omega) hn (s := 1 + sd) ⟨by omega, by omega⟩).2) (fun u_1903 hK => ?_)
  refine g_nmi (P := fun lo => (0 ≤ lo ∧ lo ≤ 3) ∧ LK z u lo u_1903) (⟨(lots_k A (by omega) hn (s := 1 + sd) ⟨by omega, by omega⟩).1, hK⟩) (fun lo h_lo => ?_)
  obtain ⟨lor, k1, k17, k20, k16, kw⟩ := h_lo
  have B_u_1903 := KP_rf k1.1
  refine g_istore F [(36, .int (J (lo))), (0, .ref b), (1, .ref (ad 7 (0))), (2, .ref (ad 41 (0))), (3, .ref (ad 42 (0))), (4, .ref (ad 43 (0))), (5, .int (J (z 10 0 0))), (6, .long (Lg (bg))), (8, .int (J (t))), (9, .int (J (xx))), (10, .int (J (z 16 0 0))), (11, .int (J (z 15 0 0))), (12, .int (J (trU z))), (13, .int (J (tcU z))), (14, .int (J (twU z))), (15, .int (J (cmB z))), (16, .int (J (clB z))), (17, .int (J (fo)))] dL_law_1906 (by decide) rfl ?_
  refine g_iload F dL_law_1908 0 rfl ?_
  refine g_if_lt 1992 F dL_law_1910 (by omega) rfl (fun c_1 => ?_) (fun c_1 => ?_)
  · skip
    exfalso; omega
  · skip
    refine g_iload F dL_law_1913 0 rfl ?_
    refine g_iconst F dL_law_1915 (3) (by decide) ?_
    refine g_icmp_gt 1992 F dL_law_1916 (by omega) (by decide) rfl (fun c_2 => ?_) (fun c_2 => ?_)
    · skip
      exfalso; omega
    · skip
      refine g_aload_n F dL_law_1919 rfl 2 rfl ?_
      refine g_iconst F dL_law_1920 (2) (by decide) ?_
      refine g_callV 1 F (As := [.int (J (2))]) (st := []) (c_X7_count l D ad u_1903 y (2) (by omega) (KP_I B_u_1903)) (gR_7) rfl mk_L_101 ki_X7_count kc_X7_count (by decide +kernel) rfl (by decide) dL_law_1921 rfl (Nat.le_of_ble_eq_true rfl) (pI_k ?_)
      refine g_topi (b := (z 16 0 0) + (3)) ((ct2 B_u_1903).trans k16) ?_
      refine g_iload F dL_law_1924 10 rfl ?_
      refine g_iconst F dL_law_1926 (3) (by decide) ?_
      refine g_iadd F dL_law_1927 ?_
      refine g_icmp_ne 1992 F dL_law_1928 (by omega) (by omega) rfl (fun c_3 => ?_) (fun c_3 => ?_)
      · skip
        exact absurd rfl c_3
      · skip
        refine g_aload_n F dL_law_1931 rfl 2 rfl ?_
        refine g_iconst F dL_law_1932 (5) (by decide) ?_
        refine g_callV 1 F (As := [.int (J (5))]) (st := []) (c_X7_count l D ad u_1903 y (5) (by omega) (KP_I B_u_1903)) (gR_7) rfl mk_L_101 ki_X7_count kc_X7_count (by decide +kernel) rfl (by decide) dL_law_1933 rfl (Nat.le_of_ble_eq_true rfl) (pI_k ?_)
        refine g_topi (b := (twU z) + (lo)) ((ct5 B_u_1903).trans kw) ?_
        refine g_iload F dL_law_1936 14 rfl ?_
        refine g_iload F dL_law_1938 0 rfl ?_
        refine g_iadd F dL_law_1940 ?_
        refine g_icmp_ne 1992 F dL_law_1941 (by omega) (by omega) rfl (fun c_4 => ?_) (fun c_4 => ?_)
        · skip
          exact absurd rfl c_4
        · skip
          refine g_aload_n F dL_law_1944 rfl 2 rfl ?_
          refine g_iload F dL_law_1945 10 rfl ?_
          refine g_callV 1 F (As := [.int (J (z 16 0 0))]) (st := []) (c_X7_undo l D ad u_1903 y (z 16 0 0) (by omega) (KP_I B_u_1903)) (gR_7) rfl mk_L_110 ki_X7_undo kc_X7_undo (by decide +kernel) rfl (by decide) dL_law_1947 rfl (Nat.le_of_ble_eq_true rfl) (pI_k ?_)
          refine g_topi (b := 3) ((undo_k (m := 3) hz (EXT_tr k1 B_u_1903.1.1) (B_u_1903.1.2.2.trans k16) (B_u_1903.2.1.trans k17) (B_u_1903.2.2.trans k20)).1) ?_
          refine g_nm (P := fun u_1947 => KP z u u_1947) ((undo_k (m := 3) hz (EXT_tr k1 B_u_1903.1.1) (B_u_1903.1.2.2.trans k16) (B_u_1903.2.1.trans k17) (B_u_1903.2.2.trans k20)).2) (fun u_1947 A_u_1947 => ?_)
          refine g_iconst F dL_law_1950 (3) (by decide) ?_
          refine g_icmp_ne 1992 F dL_law_1951 (by decide) (by decide) rfl (fun c_5 => ?_) (fun c_5 => ?_)
          · skip
            exact absurd c_5 (by decide)
          · skip
            refine g_aload_n F dL_law_1954 rfl 2 rfl ?_
            refine g_iconst F dL_law_1955 (1) (by decide) ?_
            refine g_callV 1 F (As := [.int (J (1))]) (st := []) (c_X7_count l D ad u_1947 y (1) (by omega) (KP_I A_u_1947)) (gR_7) rfl mk_L_101 ki_X7_count kc_X7_count (by decide +kernel) rfl (by decide) dL_law_1956 rfl (Nat.le_of_ble_eq_true rfl) (pI_k ?_)
            refine g_topi (b := z 15 0 0) (ct1 A_u_1947) ?_
            refine g_iload F dL_law_1959 11 rfl ?_
            refine g_icmp_ne 1992 F dL_law_1961 (by omega) (by omega) rfl (fun c_6 => ?_) (fun c_6 => ?_)
            · skip
              exact absurd rfl c_6
            · skip
              refine g_aload_n F dL_law_1964 rfl 2 rfl ?_
              refine g_iconst F dL_law_1965 (3) (by decide) ?_
              refine g_callV 1 F (As := [.int (J (3))]) (st := []) (c_X7_count l D ad u_1947 y (3) (by omega) (KP_I A_u_1947)) (gR_7) rfl mk_L_101 ki_X7_count kc_X7_count (by decide +kernel) rfl (by decide) dL_law_1966 rfl (Nat.le_of_ble_eq_true rfl) (pI_k ?_)
              refine g_topi (b := trU z) (ct3 A_u_1947) ?_
              refine g_iload F dL_law_1969 12 rfl ?_
              refine g_icmp_ne 1992 F dL_law_1971 (by omega) (by omega) rfl (fun c_7 => ?_) (fun c_7 => ?_)
              · skip
                exact absurd rfl c_7
              · skip
                refine g_aload_n F dL_law_1974 rfl 2 rfl ?_
                refine g_callV 0 F (As := []) (st := []) (c_X7_comes l D ad u_1947 y  (KP_I A_u_1947)) (gR_7) rfl mk_L_104 ki_X7_comes kc_X7_comes (by decide +kernel) rfl (by decide) dL_law_1975 rfl (Nat.le_of_ble_eq_true rfl) (pI_k ?_)
                refine g_topi (b := cmB z) ((cq_k A_u_1947 hn).1) ?_
                refine g_nm (P := fun u_1975 => KP z u u_1975 ∧ u_1975 19 0 0 = clB z) ((cq_k A_u_1947 hn).2) (fun u_1975 ⟨A_u_1975, T_u_1975⟩ => ?_)
                refine g_iload F dL_law_1978 15 rfl ?_
                refine g_icmp_ne 1992 F dL_law_1980 (by omega) (by omega) rfl (fun c_8 => ?_) (fun c_8 => ?_)
                · skip
                  exact absurd rfl c_8
                · skip
                  refine g_aload_n F dL_law_1983 rfl 2 rfl ?_
                  refine g_callV 0 F (As := []) (st := []) (c_X7_asked l D ad u_1975 y  ) (gR_7) rfl mk_L_73 ki_X7_asked kc_X7_asked (by decide +kernel) rfl (by decide) dL_law_1984 rfl (Nat.le_of_ble_eq_true rfl) (pI_k ?_)
                  refine g_topi (b := clB z) (T_u_1975) ?_
                  refine g_iload F dL_law_1987 16 rfl ?_
                  refine g_icmp_eq 1994 F dL_law_1989 (by omega) (by omega) rfl (fun c_9 => ?_) (fun c_9 => ?_)
                  · skip
                    refine g_sub [1, 2, 3, 4, 5, 6, 7, 8, 9] (lv' := [(0, .ref b), (1, .ref (ad 7 (0))), (2, .ref (ad 41 (0))), (3, .ref (ad 42 (0))), (4, .ref (ad 43 (0))), (5, .int (J (z 10 0 0))), (6, .long (Lg (bg))), (8, .int (J (t))), (9, .int (J (xx)))]) rfl ?_
                    exact kk _ (KP_re A_u_1975)
                  · skip
                    exact absurd rfl c_9
