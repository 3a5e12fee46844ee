theorem law_case {Θ : gT} {l : Launch} {D : gD} {ad : gA} {b L : Nat} {sc : Int → Int} {i w : Int} {x : gX} {y : gY} (F : gF Θ l D ad cL_law RL 4 20) (hX : gScr Θ b L sc) (hL : L ≤ 3072) (hi2 : 0 ≤ i ∧ i + 6 ≤ (L : Int)) (hw32 : i32 w) (hRel : Rel x y) (kk : ∀ (x1 : gX) (y1 : gY), Rel x1 y1 → gW Θ l D ad 4 1248 (lwL ad b i) [] x1 y1) : gW Θ l D ad 4 33 (lwL ad b i) [.int (J w)] x y := by
  rcases (show (w < 0 ∨ 40 < w) ∨ (0 ≤ w ∧ w ≤ 40) by omega) with h | ⟨h0, h1⟩
  · exact g_switchD F 1248 dL_law_33 hw32 h rfl (kk x y hRel)
  · skip
    rcases (show w ≤ 20 ∨ 21 ≤ w by omega) with q | q
    · skip
      rcases (show w ≤ 10 ∨ 11 ≤ w by omega) with q | q
      · skip
        rcases (show w ≤ 5 ∨ 6 ≤ w by omega) with q | q
        · skip
          rcases (show w ≤ 2 ∨ 3 ≤ w by omega) with q | q
          · skip
            rcases (show w ≤ 1 ∨ 2 ≤ w by omega) with q | q
            · skip
              rcases (show w ≤ 0 ∨ 1 ≤ w by omega) with q | q
              · skip
                have hw : w = 0 := by omega
                subst hw
                exact g_switch F 212 dL_law_33 hw32 (by decide) (by decide) rfl rfl (lc_0 F hX hL hi2 hRel kk)
              · skip
                have hw : w = 1 := by omega
                subst hw
                exact g_switch F 245 dL_law_33 hw32 (by decide) (by decide) rfl rfl (lc_1 F hX hL hi2 hRel kk)
            · skip
              have hw : w = 2 := by omega
              subst hw
              exact g_switch F 288 dL_law_33 hw32 (by decide) (by decide) rfl rfl (lc_2 F hX hL hi2 hRel kk)
          · skip
            rcases (show w ≤ 4 ∨ 5 ≤ w by omega) with q | q
            · skip
              rcases (show w ≤ 3 ∨ 4 ≤ w by omega) with q | q
              · skip
                have hw : w = 3 := by omega
                subst hw
                exact g_switch F 321 dL_law_33 hw32 (by decide) (by decide) rfl rfl (lc_3 F hX hL hi2 hRel kk)
              · skip
                have hw : w = 4 := by omega
                subst hw
                exact g_switch F 344 dL_law_33 hw32 (by decide) (by decide) rfl rfl (lc_4 F hX hL hi2 hRel kk)
            · skip
              have hw : w = 5 := by omega
              subst hw
              exact g_switch F 407 dL_law_33 hw32 (by decide) (by decide) rfl rfl (lc_5 F hX hL hi2 hRel kk)
        · skip
          rcases (show w ≤ 8 ∨ 9 ≤ w by omega) with q | q
          · skip
            rcases (show w ≤ 7 ∨ 8 ≤ w by omega) with q | q
            · skip
              rcases (show w ≤ 6 ∨ 7 ≤ w by omega) with q | q
              · skip
                have hw : w = 6 := by omega
                subst hw
                exact g_switch F 430 dL_law_33 hw32 (by decide) (by decide) rfl rfl (lc_6 F hX hL hi2 hRel kk)
              · skip
                have hw : w = 7 := by omega
                subst hw
                exact g_switch F 463 dL_law_33 hw32 (by decide) (by decide) rfl rfl (lc_7 F hX hL hi2 hRel kk)
            · skip
              have hw : w = 8 := by omega
              subst hw
              exact g_switch F 506 dL_law_33 hw32 (by decide) (by decide) rfl rfl (lc_8 F hX hL hi2 hRel kk)
          · skip
            rcases (show w ≤ 9 ∨ 10 ≤ w by omega) with q | q
            · skip
              have hw : w = 9 := by omega
              subst hw
              exact g_switch F 529 dL_law_33 hw32 (by decide) (by decide) rfl rfl (lc_9 F hX hL hi2 hRel kk)
            · skip
              have hw : w = 10 := by omega
              subst hw
              exact g_switch F 552 dL_law_33 hw32 (by decide) (by decide) rfl rfl (lc_10 F hX hL hi2 hRel kk)
      · skip
        rcases (show w ≤ 15 ∨ 16 ≤ w by omega) with q | q
        · skip
          rcases (show w ≤ 13 ∨ 14 ≤ w by omega) with q | q
          · skip
            rcases (show w ≤ 12 ∨ 13 ≤ w by omega) with q | q
            · skip
              rcases (show w ≤ 11 ∨ 12 ≤ w by omega) with q | q
              · skip
                have hw : w = 11 := by omega
                subst hw
                exact g_switch F 585 dL_law_33 hw32 (by decide) (by decide) rfl rfl (lc_11 F hX hL hi2 hRel kk)
              · skip
                have hw : w = 12 := by omega
                subst hw
                exact g_switch F 618 dL_law_33 hw32 (by decide) (by decide) rfl rfl (lc_12 F hX hL hi2 hRel kk)
            · skip
              have hw : w = 13 := by omega
              subst hw
              exact g_switch F 641 dL_law_33 hw32 (by decide) (by decide) rfl rfl (lc_13 F hX hL hi2 hRel kk)
          · skip
            rcases (show w ≤ 14 ∨ 15 ≤ w by omega) with q | q
            · skip
              have hw : w = 14 := by omega
              subst hw
              exact g_switch F 664 dL_law_33 hw32 (by decide) (by decide) rfl rfl (lc_14 F hX hL hi2 hRel kk)
            · skip
              have hw : w = 15 := by omega
              subst hw
              exact g_switch F 687 dL_law_33 hw32 (by decide) (by decide) rfl rfl (lc_15 F hX hL hi2 hRel kk)
        · skip
          rcases (show w ≤ 18 ∨ 19 ≤ w by omega) with q | q
          · skip
            rcases (show w ≤ 17 ∨ 18 ≤ w by omega) with q | q
            · skip
              rcases (show w ≤ 16 ∨ 17 ≤ w by omega) with q | q
              · skip
                have hw : w = 16 := by omega
                subst hw
                exact g_switch F 710 dL_law_33 hw32 (by decide) (by decide) rfl rfl (lc_16 F hX hL hi2 hRel kk)
              · skip
                have hw : w = 17 := by omega
                subst hw
                exact g_switch F 733 dL_law_33 hw32 (by decide) (by decide) rfl rfl (lc_17 F hX hL hi2 hRel kk)
            · skip
              have hw : w = 18 := by omega
              subst hw
              exact g_switch F 756 dL_law_33 hw32 (by decide) (by decide) rfl rfl (lc_18 F hX hL hi2 hRel kk)
          · skip
            rcases (show w ≤ 19 ∨ 20 ≤ w by omega) with q | q
            · skip
              have hw : w = 19 := by omega
              subst hw
              exact g_switch F 769 dL_law_33 hw32 (by decide) (by decide) rfl rfl (lc_19 F hX hL hi2 hRel kk)
            · skip
              have hw : w = 20 := by omega
              subst hw
              exact g_switch F 792 dL_law_33 hw32 (by decide) (by decide) rfl rfl (lc_20 F hX hL hi2 hRel kk)
    · skip
      rcases (show w ≤ 30 ∨ 31 ≤ w by omega) with q | q
      · skip
        rcases (show w ≤ 25 ∨ 26 ≤ w by omega) with q | q
        · skip
          rcases (show w ≤ 23 ∨ 24 ≤ w by omega) with q | q
          · skip
            rcases (show w ≤ 22 ∨ 23 ≤ w by omega) with q | q
            · skip
              rcases (show w ≤ 21 ∨ 22 ≤ w by omega) with q | q
              · skip
                have hw : w = 21 := by omega
                subst hw
                exact g_switch F 805 dL_law_33 hw32 (by decide) (by decide) rfl rfl (lc_21 F hX hL hi2 hRel kk)
              · skip
                have hw : w = 22 := by omega
                subst hw
                exact g_switch F 838 dL_law_33 hw32 (by decide) (by decide) rfl rfl (lc_22 F hX hL hi2 hRel kk)
            · skip
              have hw : w = 23 := by omega
              subst hw
              exact g_switch F 861 dL_law_33 hw32 (by decide) (by decide) rfl rfl (lc_23 F hX hL hi2 hRel kk)
          · skip
            rcases (show w ≤ 24 ∨ 25 ≤ w by omega) with q | q
            · skip
              have hw : w = 24 := by omega
              subst hw
              exact g_switch F 884 dL_law_33 hw32 (by decide) (by decide) rfl rfl (lc_24 F hX hL hi2 hRel kk)
            · skip
              have hw : w = 25 := by omega
              subst hw
              exact g_switch F 907 dL_law_33 hw32 (by decide) (by decide) rfl rfl (lc_25 F hX hL hi2 hRel kk)
        · skip
          rcases (show w ≤ 28 ∨ 29 ≤ w by omega) with q | q
          · skip
            rcases (show w ≤ 27 ∨ 28 ≤ w by omega) with q | q
            · skip
              rcases (show w ≤ 26 ∨ 27 ≤ w by omega) with q | q
              · skip
                have hw : w = 26 := by omega
                subst hw
                exact g_switch F 920 dL_law_33 hw32 (by decide) (by decide) rfl rfl (lc_26 F hX hL hi2 hRel kk)
              · skip
                have hw : w = 27 := by omega
                subst hw
                exact g_switch F 943 dL_law_33 hw32 (by decide) (by decide) rfl rfl (lc_27 F hX hL hi2 hRel kk)
            · skip
              have hw : w = 28 := by omega
              subst hw
              exact g_switch F 966 dL_law_33 hw32 (by decide) (by decide) rfl rfl (lc_28 F hX hL hi2 hRel kk)
          · skip
            rcases (show w ≤ 29 ∨ 30 ≤ w by omega) with q | q
            · skip
              have hw : w = 29 := by omega
              subst hw
              exact g_switch F 999 dL_law_33 hw32 (by decide) (by decide) rfl rfl (lc_29 F hX hL hi2 hRel kk)
            · skip
              have hw : w = 30 := by omega
              subst hw
              exact g_switch F 1032 dL_law_33 hw32 (by decide) (by decide) rfl rfl (lc_30 F hX hL hi2 hRel kk)
      · skip
        rcases (show w ≤ 35 ∨ 36 ≤ w by omega) with q | q
        · skip
          rcases (show w ≤ 33 ∨ 34 ≤ w by omega) with q | q
          · skip
            rcases (show w ≤ 32 ∨ 33 ≤ w by omega) with q | q
            · skip
              rcases (show w ≤ 31 ∨ 32 ≤ w by omega) with q | q
              · skip
                have hw : w = 31 := by omega
                subst hw
                exact g_switch F 1055 dL_law_33 hw32 (by decide) (by decide) rfl rfl (lc_31 F hX hL hi2 hRel kk)
              · skip
                have hw : w = 32 := by omega
                subst hw
                exact g_switch F 1078 dL_law_33 hw32 (by decide) (by decide) rfl rfl (lc_32 F hX hL hi2 hRel kk)
            · skip
              have hw : w = 33 := by omega
              subst hw
              exact g_switch F 1101 dL_law_33 hw32 (by decide) (by decide) rfl rfl (lc_33 F hX hL hi2 hRel kk)
          · skip
            rcases (show w ≤ 34 ∨ 35 ≤ w by omega) with q | q
            · skip
              have hw : w = 34 := by omega
              subst hw
              exact g_switch F 1134 dL_law_33 hw32 (by decide) (by decide) rfl rfl (lc_34 F hX hL hi2 hRel kk)
            · skip
              have hw : w = 35 := by omega
              subst hw
              exact g_switch F 1147 dL_law_33 hw32 (by decide) (by decide) rfl rfl (lc_35 F hX hL hi2 hRel kk)
        · skip
          rcases (show w ≤ 38 ∨ 39 ≤ w by omega) with q | q
          · skip
            rcases (show w ≤ 37 ∨ 38 ≤ w by omega) with q | q
            · skip
              rcases (show w ≤ 36 ∨ 37 ≤ w by omega) with q | q
              · skip
                have hw : w = 36 := by omega
                subst hw
                exact g_switch F 1161 dL_law_33 hw32 (by decide) (by decide) rfl rfl (lc_36 F hX hL hi2 hRel kk)
              · skip
                have hw : w = 37 := by omega
                subst hw
                exact g_switch F 1175 dL_law_33 hw32 (by decide) (by decide) rfl rfl (lc_37 F hX hL hi2 hRel kk)
            · skip
              have hw : w = 38 := by omega
              subst hw
              exact g_switch F 1198 dL_law_33 hw32 (by decide) (by decide) rfl rfl (lc_38 F hX hL hi2 hRel kk)
          · skip
            rcases (show w ≤ 39 ∨ 40 ≤ w by omega) with q | q
            · skip
              have hw : w = 39 := by omega
              subst hw
              exact g_switch F 1211 dL_law_33 hw32 (by decide) (by decide) rfl rfl (lc_39 F hX hL hi2 hRel kk)
            · skip
              have hw : w = 40 := by omega
              subst hw
              exact g_switch F 1234 dL_law_33 hw32 (by decide) (by decide) rfl rfl (lc_40 F hX hL hi2 hRel kk)
set_option maxRecDepth 100000 in
theorem law_loop {Θ : gT} {l : Launch} {D : gD} {ad : gA} {b L : Nat} {sc : Int → Int} (F : gF Θ l D ad cL_law RL 4 20) (hX : gScr Θ b L sc) (hL : L ≤ 3072) (hend : ∀ (i : Int) (x : gX) (y : gY), gW Θ l D ad 4 1254 (lwL ad b i) [] x y) : ∀ (N : Nat) (i : Int) (x : gX) (y : gY), 0 ≤ i ∧ i ≤ (L : Int) + 6 → Rel x y → ((L : Int) + 6 - i).toNat < N → gW Θ l D ad 4 18 (lwL ad b i) [] x y := by
  intro N
  induction N with
  | zero => intro i x y hi hRel hN; omega
  | succ N ih =>
    intro i x y hi hRel hN
    refine g_iload_n F dL_law_18 rfl 0 rfl ?_
    refine g_aload_n F dL_law_19 rfl 3 rfl ?_
    refine g_slen F hX hL dL_law_20 ?_
    refine g_bipush F dL_law_21 6 (by decide) ?_
    refine g_isub F dL_law_23 ?_
    refine g_icmp_gt 1254 F dL_law_24 (by omega) (by omega) rfl (fun _ => hend i x y) (fun c => ?_)
    refine g_aload_n F dL_law_27 rfl 3 rfl ?_
    refine g_iload_n F dL_law_28 rfl 0 rfl ?_
    refine g_sld F hX (by omega) hL dL_law_29 ?_
    refine g_bipush F dL_law_30 63 (by decide) ?_
    refine g_iand F dL_law_32 ((J (sc i) &&& J 63).toInt) (Int32.ofInt_toInt _).symm ?_
    refine law_case F hX hL (by omega) ⟨by have := Int32.le_toInt (J (sc i) &&& J 63); omega, by have := Int32.toInt_lt (J (sc i) &&& J 63); omega⟩ hRel (fun x1 y1 h1 => ?_)
    refine g_iinc F (lwL ad b (i + 6)) 0 rfl dL_law_1248 (by decide) rfl ?_
    refine g_goto F 18 dL_law_1251 rfl ?_
    exact ih (i + 6) x1 y1 (by omega) h1 (by omega)
