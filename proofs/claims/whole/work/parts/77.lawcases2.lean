theorem lc_21 {Θ : gT} {l : Launch} {D : gD} {ad : gA} {b L : Nat} {sc : Int → Int} {i : Int} {x : gX} {y : gY} (F : gF Θ l D ad cL_law RL 4 20) (hX : gScr Θ b L sc) (hL : L ≤ 3072) (hi : 0 ≤ i ∧ i + 6 ≤ (L : Int)) (hRel : Rel x y) (kk : ∀ (x1 : gX) (y1 : gY), Rel x1 y1 → gW Θ l D ad 4 1248 (lwL ad b i) [] x1 y1) : gW Θ l D ad 4 805 (lwL ad b i) [] x y := by
  refine g_aload_n F dL_law_805 rfl 2 rfl ?_
  refine g_aload_n F dL_law_806 rfl 3 rfl ?_
  refine g_iload_n F dL_law_807 rfl 0 rfl ?_
  refine g_iconst F dL_law_808 (1) (by decide) ?_
  refine g_iadd F dL_law_809 ?_
  refine g_sld F hX (by omega) hL dL_law_810 ?_
  refine g_aload_n F dL_law_811 rfl 3 rfl ?_
  refine g_iload_n F dL_law_812 rfl 0 rfl ?_
  refine g_iconst F dL_law_813 (2) (by decide) ?_
  refine g_iadd F dL_law_814 ?_
  refine g_sld F hX (by omega) hL dL_law_815 ?_
  refine g_callV 2 F (As := [.int (J (sc (i + 1))), .int (J (sc (i + 2)))]) (st := []) (c_X7_heats l D ad x y (sc (i + 1)) (sc (i + 2)) (sc_r hX _) (sc_r hX _) hRel.1) gR_7 rfl mk_L_102 ki_X7_heats kc_X7_heats (by decide +kernel) rfl (by decide) dL_law_816 rfl (Nat.le_of_ble_eq_true rfl) (pI_k ?_)
  refine g_aload_n F dL_law_819 rfl 1 rfl ?_
  refine g_aload_n F dL_law_820 rfl 3 rfl ?_
  refine g_iload_n F dL_law_821 rfl 0 rfl ?_
  refine g_iconst F dL_law_822 (1) (by decide) ?_
  refine g_iadd F dL_law_823 ?_
  refine g_sld F hX (by omega) hL dL_law_824 ?_
  refine g_aload_n F dL_law_825 rfl 3 rfl ?_
  refine g_iload_n F dL_law_826 rfl 0 rfl ?_
  refine g_iconst F dL_law_827 (2) (by decide) ?_
  refine g_iadd F dL_law_828 ?_
  refine g_sld F hX (by omega) hL dL_law_829 ?_
  refine g_callV 2 F (As := [.int (J (sc (i + 1))), .int (J (sc (i + 2)))]) (st := [.int (J ((sHeats x (sc (i + 1)) (sc (i + 2))).1))]) (c_X8_heats l D ad ((sHeats x (sc (i + 1)) (sc (i + 2))).2) y x (sc (i + 1)) (sc (i + 2)) (sc_r hX _) (sc_r hX _) hRel) gR_8 rfl mk_L_105 ki_X8_heats kc_X8_heats (by decide +kernel) rfl (by decide) dL_law_830 rfl (Nat.le_of_ble_eq_true rfl) (pH_k (fun v hv => ?_))
  refine g_same 1248 F dL_law_833 rfl ?_
  exact kk _ _ (hv)

theorem lc_22 {Θ : gT} {l : Launch} {D : gD} {ad : gA} {b L : Nat} {sc : Int → Int} {i : Int} {x : gX} {y : gY} (F : gF Θ l D ad cL_law RL 4 20) (hX : gScr Θ b L sc) (hL : L ≤ 3072) (hi : 0 ≤ i ∧ i + 6 ≤ (L : Int)) (hRel : Rel x y) (kk : ∀ (x1 : gX) (y1 : gY), Rel x1 y1 → gW Θ l D ad 4 1248 (lwL ad b i) [] x1 y1) : gW Θ l D ad 4 838 (lwL ad b i) [] x y := by
  refine g_aload_n F dL_law_838 rfl 2 rfl ?_
  refine g_aload_n F dL_law_839 rfl 3 rfl ?_
  refine g_iload_n F dL_law_840 rfl 0 rfl ?_
  refine g_iconst F dL_law_841 (1) (by decide) ?_
  refine g_iadd F dL_law_842 ?_
  refine g_sld F hX (by omega) hL dL_law_843 ?_
  refine g_callV 1 F (As := [.int (J (sc (i + 1)))]) (st := []) (c_X7_tells l D ad x y (sc (i + 1)) (sc_r hX _) hRel.1) gR_7 rfl mk_L_106 ki_X7_tells kc_X7_tells (by decide +kernel) rfl (by decide) dL_law_844 rfl (Nat.le_of_ble_eq_true rfl) (pI_k ?_)
  refine g_aload_n F dL_law_847 rfl 1 rfl ?_
  refine g_aload_n F dL_law_848 rfl 3 rfl ?_
  refine g_iload_n F dL_law_849 rfl 0 rfl ?_
  refine g_iconst F dL_law_850 (1) (by decide) ?_
  refine g_iadd F dL_law_851 ?_
  refine g_sld F hX (by omega) hL dL_law_852 ?_
  refine g_callV 1 F (As := [.int (J (sc (i + 1)))]) (st := [.int (J ((sTells x (sc (i + 1))).1))]) (c_X8_tells l D ad ((sTells x (sc (i + 1))).2) y x (sc (i + 1)) (sc_r hX _) hRel) gR_8 rfl mk_L_109 ki_X8_tells kc_X8_tells (by decide +kernel) rfl (by decide) dL_law_853 rfl (Nat.le_of_ble_eq_true rfl) (pH_k (fun v hv => ?_))
  refine g_same 1248 F dL_law_856 rfl ?_
  exact kk _ _ (hv)

theorem lc_23 {Θ : gT} {l : Launch} {D : gD} {ad : gA} {b L : Nat} {sc : Int → Int} {i : Int} {x : gX} {y : gY} (F : gF Θ l D ad cL_law RL 4 20) (hX : gScr Θ b L sc) (hL : L ≤ 3072) (hi : 0 ≤ i ∧ i + 6 ≤ (L : Int)) (hRel : Rel x y) (kk : ∀ (x1 : gX) (y1 : gY), Rel x1 y1 → gW Θ l D ad 4 1248 (lwL ad b i) [] x1 y1) : gW Θ l D ad 4 861 (lwL ad b i) [] x y := by
  refine g_aload_n F dL_law_861 rfl 2 rfl ?_
  refine g_aload_n F dL_law_862 rfl 3 rfl ?_
  refine g_iload_n F dL_law_863 rfl 0 rfl ?_
  refine g_iconst F dL_law_864 (1) (by decide) ?_
  refine g_iadd F dL_law_865 ?_
  refine g_sld F hX (by omega) hL dL_law_866 ?_
  refine g_callV 1 F (As := [.int (J (sc (i + 1)))]) (st := []) (c_X7_order l D ad x y (sc (i + 1)) (sc_r hX _) hRel.1) gR_7 rfl mk_L_110 ki_X7_order kc_X7_order (by decide +kernel) rfl (by decide) dL_law_867 rfl (Nat.le_of_ble_eq_true rfl) (pG_k (fun u hG => ?_))
  refine g_aload_n F dL_law_870 rfl 1 rfl ?_
  refine g_aload_n F dL_law_871 rfl 3 rfl ?_
  refine g_iload_n F dL_law_872 rfl 0 rfl ?_
  refine g_iconst F dL_law_873 (1) (by decide) ?_
  refine g_iadd F dL_law_874 ?_
  refine g_sld F hX (by omega) hL dL_law_875 ?_
  refine g_callV 1 F (As := [.int (J (sc (i + 1)))]) (st := [.int (J ((sOrder x (sc (i + 1))).1))]) (c_X8_order l D ad u y x (sc (i + 1)) (sc_r hX _) hRel) gR_8 rfl mk_L_113 ki_X8_order kc_X8_order (by decide +kernel) rfl (by decide) dL_law_876 rfl (Nat.le_of_ble_eq_true rfl) (pH_k (fun v hv => ?_))
  refine g_same 1248 F dL_law_879 rfl ?_
  exact kk _ _ (Rel_xG hv hG)

theorem lc_24 {Θ : gT} {l : Launch} {D : gD} {ad : gA} {b L : Nat} {sc : Int → Int} {i : Int} {x : gX} {y : gY} (F : gF Θ l D ad cL_law RL 4 20) (hX : gScr Θ b L sc) (hL : L ≤ 3072) (hi : 0 ≤ i ∧ i + 6 ≤ (L : Int)) (hRel : Rel x y) (kk : ∀ (x1 : gX) (y1 : gY), Rel x1 y1 → gW Θ l D ad 4 1248 (lwL ad b i) [] x1 y1) : gW Θ l D ad 4 884 (lwL ad b i) [] x y := by
  refine g_aload_n F dL_law_884 rfl 2 rfl ?_
  refine g_aload_n F dL_law_885 rfl 3 rfl ?_
  refine g_iload_n F dL_law_886 rfl 0 rfl ?_
  refine g_iconst F dL_law_887 (1) (by decide) ?_
  refine g_iadd F dL_law_888 ?_
  refine g_sld F hX (by omega) hL dL_law_889 ?_
  refine g_callV 1 F (As := [.int (J (sc (i + 1)))]) (st := []) (c_X7_tried l D ad x y (sc (i + 1)) (sc_r hX _) hRel.1) gR_7 rfl mk_L_114 ki_X7_tried kc_X7_tried (by decide +kernel) rfl (by decide) dL_law_890 rfl (Nat.le_of_ble_eq_true rfl) (pI_k ?_)
  refine g_aload_n F dL_law_893 rfl 1 rfl ?_
  refine g_aload_n F dL_law_894 rfl 3 rfl ?_
  refine g_iload_n F dL_law_895 rfl 0 rfl ?_
  refine g_iconst F dL_law_896 (1) (by decide) ?_
  refine g_iadd F dL_law_897 ?_
  refine g_sld F hX (by omega) hL dL_law_898 ?_
  refine g_callV 1 F (As := [.int (J (sc (i + 1)))]) (st := [.int (J ((sTried x (sc (i + 1))).1))]) (c_X8_tried l D ad ((sTried x (sc (i + 1))).2) y x (sc (i + 1)) (sc_r hX _) hRel) gR_8 rfl mk_L_117 ki_X8_tried kc_X8_tried (by decide +kernel) rfl (by decide) dL_law_899 rfl (Nat.le_of_ble_eq_true rfl) (pH_k (fun v hv => ?_))
  refine g_same 1248 F dL_law_902 rfl ?_
  exact kk _ _ (hv)

theorem lc_25 {Θ : gT} {l : Launch} {D : gD} {ad : gA} {b L : Nat} {sc : Int → Int} {i : Int} {x : gX} {y : gY} (F : gF Θ l D ad cL_law RL 4 20) (hX : gScr Θ b L sc) (hL : L ≤ 3072) (hi : 0 ≤ i ∧ i + 6 ≤ (L : Int)) (hRel : Rel x y) (kk : ∀ (x1 : gX) (y1 : gY), Rel x1 y1 → gW Θ l D ad 4 1248 (lwL ad b i) [] x1 y1) : gW Θ l D ad 4 907 (lwL ad b i) [] x y := by
  refine g_aload_n F dL_law_907 rfl 2 rfl ?_
  refine g_callV 0 F (As := []) (st := []) (c_X7_least l D ad x y  hRel.1) gR_7 rfl mk_L_118 ki_X7_least kc_X7_least (by decide +kernel) rfl (by decide) dL_law_908 rfl (Nat.le_of_ble_eq_true rfl) (pI_k ?_)
  refine g_aload_n F dL_law_911 rfl 1 rfl ?_
  refine g_callV 0 F (As := []) (st := [.int (J ((sLeast x).1))]) (c_X8_least l D ad ((sLeast x).2) y x hRel) gR_8 rfl mk_L_121 ki_X8_least kc_X8_least (by decide +kernel) rfl (by decide) dL_law_912 rfl (Nat.le_of_ble_eq_true rfl) (pH_k (fun v hv => ?_))
  refine g_same 1248 F dL_law_915 rfl ?_
  exact kk _ _ (hv)

theorem lc_26 {Θ : gT} {l : Launch} {D : gD} {ad : gA} {b L : Nat} {sc : Int → Int} {i : Int} {x : gX} {y : gY} (F : gF Θ l D ad cL_law RL 4 20) (hX : gScr Θ b L sc) (hL : L ≤ 3072) (hi : 0 ≤ i ∧ i + 6 ≤ (L : Int)) (hRel : Rel x y) (kk : ∀ (x1 : gX) (y1 : gY), Rel x1 y1 → gW Θ l D ad 4 1248 (lwL ad b i) [] x1 y1) : gW Θ l D ad 4 920 (lwL ad b i) [] x y := by
  refine g_aload_n F dL_law_920 rfl 2 rfl ?_
  refine g_aload_n F dL_law_921 rfl 3 rfl ?_
  refine g_iload_n F dL_law_922 rfl 0 rfl ?_
  refine g_iconst F dL_law_923 (1) (by decide) ?_
  refine g_iadd F dL_law_924 ?_
  refine g_sld F hX (by omega) hL dL_law_925 ?_
  refine g_callV 1 F (As := [.int (J (sc (i + 1)))]) (st := []) (c_X7_fits l D ad x y (sc (i + 1)) (sc_r hX _) hRel.1) gR_7 rfl mk_L_122 ki_X7_fits kc_X7_fits (by decide +kernel) rfl (by decide) dL_law_926 rfl (Nat.le_of_ble_eq_true rfl) (pI_k ?_)
  refine g_aload_n F dL_law_929 rfl 1 rfl ?_
  refine g_aload_n F dL_law_930 rfl 3 rfl ?_
  refine g_iload_n F dL_law_931 rfl 0 rfl ?_
  refine g_iconst F dL_law_932 (1) (by decide) ?_
  refine g_iadd F dL_law_933 ?_
  refine g_sld F hX (by omega) hL dL_law_934 ?_
  refine g_callV 1 F (As := [.int (J (sc (i + 1)))]) (st := [.int (J ((sFits x (sc (i + 1))).1))]) (c_X8_fits l D ad ((sFits x (sc (i + 1))).2) y x (sc (i + 1)) (sc_r hX _) hRel) gR_8 rfl mk_L_125 ki_X8_fits kc_X8_fits (by decide +kernel) rfl (by decide) dL_law_935 rfl (Nat.le_of_ble_eq_true rfl) (pH_k (fun v hv => ?_))
  refine g_same 1248 F dL_law_938 rfl ?_
  exact kk _ _ (hv)

theorem lc_27 {Θ : gT} {l : Launch} {D : gD} {ad : gA} {b L : Nat} {sc : Int → Int} {i : Int} {x : gX} {y : gY} (F : gF Θ l D ad cL_law RL 4 20) (hX : gScr Θ b L sc) (hL : L ≤ 3072) (hi : 0 ≤ i ∧ i + 6 ≤ (L : Int)) (hRel : Rel x y) (kk : ∀ (x1 : gX) (y1 : gY), Rel x1 y1 → gW Θ l D ad 4 1248 (lwL ad b i) [] x1 y1) : gW Θ l D ad 4 943 (lwL ad b i) [] x y := by
  refine g_aload_n F dL_law_943 rfl 2 rfl ?_
  refine g_aload_n F dL_law_944 rfl 3 rfl ?_
  refine g_iload_n F dL_law_945 rfl 0 rfl ?_
  refine g_iconst F dL_law_946 (1) (by decide) ?_
  refine g_iadd F dL_law_947 ?_
  refine g_sld F hX (by omega) hL dL_law_948 ?_
  refine g_callV 1 F (As := [.int (J (sc (i + 1)))]) (st := []) (c_X7_ask l D ad x y (sc (i + 1)) (sc_r hX _) hRel.1) gR_7 rfl mk_L_126 ki_X7_ask kc_X7_ask (by decide +kernel) rfl (by decide) dL_law_949 rfl (Nat.le_of_ble_eq_true rfl) (pI_k ?_)
  refine g_aload_n F dL_law_952 rfl 1 rfl ?_
  refine g_aload_n F dL_law_953 rfl 3 rfl ?_
  refine g_iload_n F dL_law_954 rfl 0 rfl ?_
  refine g_iconst F dL_law_955 (1) (by decide) ?_
  refine g_iadd F dL_law_956 ?_
  refine g_sld F hX (by omega) hL dL_law_957 ?_
  refine g_callV 1 F (As := [.int (J (sc (i + 1)))]) (st := [.int (J ((sAsk x (sc (i + 1))).1))]) (c_X8_ask l D ad ((sAsk x (sc (i + 1))).2) y x (sc (i + 1)) (sc_r hX _) hRel) gR_8 rfl mk_L_129 ki_X8_ask kc_X8_ask (by decide +kernel) rfl (by decide) dL_law_958 rfl (Nat.le_of_ble_eq_true rfl) (pH_k (fun v hv => ?_))
  refine g_same 1248 F dL_law_961 rfl ?_
  exact kk _ _ (hv)

theorem lc_28 {Θ : gT} {l : Launch} {D : gD} {ad : gA} {b L : Nat} {sc : Int → Int} {i : Int} {x : gX} {y : gY} (F : gF Θ l D ad cL_law RL 4 20) (hX : gScr Θ b L sc) (hL : L ≤ 3072) (hi : 0 ≤ i ∧ i + 6 ≤ (L : Int)) (hRel : Rel x y) (kk : ∀ (x1 : gX) (y1 : gY), Rel x1 y1 → gW Θ l D ad 4 1248 (lwL ad b i) [] x1 y1) : gW Θ l D ad 4 966 (lwL ad b i) [] x y := by
  refine g_aload_n F dL_law_966 rfl 2 rfl ?_
  refine g_aload_n F dL_law_967 rfl 3 rfl ?_
  refine g_iload_n F dL_law_968 rfl 0 rfl ?_
  refine g_iconst F dL_law_969 (1) (by decide) ?_
  refine g_iadd F dL_law_970 ?_
  refine g_sld F hX (by omega) hL dL_law_971 ?_
  refine g_aload_n F dL_law_972 rfl 3 rfl ?_
  refine g_iload_n F dL_law_973 rfl 0 rfl ?_
  refine g_iconst F dL_law_974 (2) (by decide) ?_
  refine g_iadd F dL_law_975 ?_
  refine g_sld F hX (by omega) hL dL_law_976 ?_
  refine g_callV 2 F (As := [.int (J (sc (i + 1))), .int (J (sc (i + 2)))]) (st := []) (c_X7_hands l D ad x y (sc (i + 1)) (sc (i + 2)) (sc_r hX _) (sc_r hX _) hRel.1) gR_7 rfl mk_L_130 ki_X7_hands kc_X7_hands (by decide +kernel) rfl (by decide) dL_law_977 rfl (Nat.le_of_ble_eq_true rfl) (pG_k (fun u hG => ?_))
  refine g_aload_n F dL_law_980 rfl 1 rfl ?_
  refine g_aload_n F dL_law_981 rfl 3 rfl ?_
  refine g_iload_n F dL_law_982 rfl 0 rfl ?_
  refine g_iconst F dL_law_983 (1) (by decide) ?_
  refine g_iadd F dL_law_984 ?_
  refine g_sld F hX (by omega) hL dL_law_985 ?_
  refine g_aload_n F dL_law_986 rfl 3 rfl ?_
  refine g_iload_n F dL_law_987 rfl 0 rfl ?_
  refine g_iconst F dL_law_988 (2) (by decide) ?_
  refine g_iadd F dL_law_989 ?_
  refine g_sld F hX (by omega) hL dL_law_990 ?_
  refine g_callV 2 F (As := [.int (J (sc (i + 1))), .int (J (sc (i + 2)))]) (st := [.int (J ((sHands x (sc (i + 1)) (sc (i + 2))).1))]) (c_X8_hands l D ad u y x (sc (i + 1)) (sc (i + 2)) (sc_r hX _) (sc_r hX _) hRel) gR_8 rfl mk_L_133 ki_X8_hands kc_X8_hands (by decide +kernel) rfl (by decide) dL_law_991 rfl (Nat.le_of_ble_eq_true rfl) (pH_k (fun v hv => ?_))
  refine g_same 1248 F dL_law_994 rfl ?_
  exact kk _ _ (Rel_xG hv hG)

theorem lc_29 {Θ : gT} {l : Launch} {D : gD} {ad : gA} {b L : Nat} {sc : Int → Int} {i : Int} {x : gX} {y : gY} (F : gF Θ l D ad cL_law RL 4 20) (hX : gScr Θ b L sc) (hL : L ≤ 3072) (hi : 0 ≤ i ∧ i + 6 ≤ (L : Int)) (hRel : Rel x y) (kk : ∀ (x1 : gX) (y1 : gY), Rel x1 y1 → gW Θ l D ad 4 1248 (lwL ad b i) [] x1 y1) : gW Θ l D ad 4 999 (lwL ad b i) [] x y := by
  refine g_aload_n F dL_law_999 rfl 2 rfl ?_
  refine g_aload_n F dL_law_1000 rfl 3 rfl ?_
  refine g_iload_n F dL_law_1001 rfl 0 rfl ?_
  refine g_iconst F dL_law_1002 (1) (by decide) ?_
  refine g_iadd F dL_law_1003 ?_
  refine g_sld F hX (by omega) hL dL_law_1004 ?_
  refine g_aload_n F dL_law_1005 rfl 3 rfl ?_
  refine g_iload_n F dL_law_1006 rfl 0 rfl ?_
  refine g_iconst F dL_law_1007 (2) (by decide) ?_
  refine g_iadd F dL_law_1008 ?_
  refine g_sld F hX (by omega) hL dL_law_1009 ?_
  refine g_callV 2 F (As := [.int (J (sc (i + 1))), .int (J (sc (i + 2)))]) (st := []) (c_X7_kinds l D ad x y (sc (i + 1)) (sc (i + 2)) (sc_r hX _) (sc_r hX _) hRel.1) gR_7 rfl mk_L_134 ki_X7_kinds kc_X7_kinds (by decide +kernel) rfl (by decide) dL_law_1010 rfl (Nat.le_of_ble_eq_true rfl) (pG_k (fun u hG => ?_))
  refine g_aload_n F dL_law_1013 rfl 1 rfl ?_
  refine g_aload_n F dL_law_1014 rfl 3 rfl ?_
  refine g_iload_n F dL_law_1015 rfl 0 rfl ?_
  refine g_iconst F dL_law_1016 (1) (by decide) ?_
  refine g_iadd F dL_law_1017 ?_
  refine g_sld F hX (by omega) hL dL_law_1018 ?_
  refine g_aload_n F dL_law_1019 rfl 3 rfl ?_
  refine g_iload_n F dL_law_1020 rfl 0 rfl ?_
  refine g_iconst F dL_law_1021 (2) (by decide) ?_
  refine g_iadd F dL_law_1022 ?_
  refine g_sld F hX (by omega) hL dL_law_1023 ?_
  refine g_callV 2 F (As := [.int (J (sc (i + 1))), .int (J (sc (i + 2)))]) (st := [.int (J ((sKinds x (sc (i + 1)) (sc (i + 2))).1))]) (c_X8_kinds l D ad u y x (sc (i + 1)) (sc (i + 2)) (sc_r hX _) (sc_r hX _) hRel) gR_8 rfl mk_L_137 ki_X8_kinds kc_X8_kinds (by decide +kernel) rfl (by decide) dL_law_1024 rfl (Nat.le_of_ble_eq_true rfl) (pH_k (fun v hv => ?_))
  refine g_same 1248 F dL_law_1027 rfl ?_
  exact kk _ _ (Rel_xG hv hG)

theorem lc_30 {Θ : gT} {l : Launch} {D : gD} {ad : gA} {b L : Nat} {sc : Int → Int} {i : Int} {x : gX} {y : gY} (F : gF Θ l D ad cL_law RL 4 20) (hX : gScr Θ b L sc) (hL : L ≤ 3072) (hi : 0 ≤ i ∧ i + 6 ≤ (L : Int)) (hRel : Rel x y) (kk : ∀ (x1 : gX) (y1 : gY), Rel x1 y1 → gW Θ l D ad 4 1248 (lwL ad b i) [] x1 y1) : gW Θ l D ad 4 1032 (lwL ad b i) [] x y := by
  refine g_aload_n F dL_law_1032 rfl 2 rfl ?_
  refine g_aload_n F dL_law_1033 rfl 3 rfl ?_
  refine g_iload_n F dL_law_1034 rfl 0 rfl ?_
  refine g_iconst F dL_law_1035 (1) (by decide) ?_
  refine g_iadd F dL_law_1036 ?_
  refine g_sld F hX (by omega) hL dL_law_1037 ?_
  refine g_callV 1 F (As := [.int (J (sc (i + 1)))]) (st := []) (c_X7_duel l D ad x y (sc (i + 1)) (sc_r hX _) hRel.1) gR_7 rfl mk_L_138 ki_X7_duel kc_X7_duel (by decide +kernel) rfl (by decide) dL_law_1038 rfl (Nat.le_of_ble_eq_true rfl) (pG_k (fun u hG => ?_))
  refine g_aload_n F dL_law_1041 rfl 1 rfl ?_
  refine g_aload_n F dL_law_1042 rfl 3 rfl ?_
  refine g_iload_n F dL_law_1043 rfl 0 rfl ?_
  refine g_iconst F dL_law_1044 (1) (by decide) ?_
  refine g_iadd F dL_law_1045 ?_
  refine g_sld F hX (by omega) hL dL_law_1046 ?_
  refine g_callV 1 F (As := [.int (J (sc (i + 1)))]) (st := [.int (J ((sDuel x (sc (i + 1))).1))]) (c_X8_duel l D ad u y x (sc (i + 1)) (sc_r hX _) hRel) gR_8 rfl mk_L_141 ki_X8_duel kc_X8_duel (by decide +kernel) rfl (by decide) dL_law_1047 rfl (Nat.le_of_ble_eq_true rfl) (pH_k (fun v hv => ?_))
  refine g_same 1248 F dL_law_1050 rfl ?_
  exact kk _ _ (Rel_xG hv hG)

theorem lc_31 {Θ : gT} {l : Launch} {D : gD} {ad : gA} {b L : Nat} {sc : Int → Int} {i : Int} {x : gX} {y : gY} (F : gF Θ l D ad cL_law RL 4 20) (hX : gScr Θ b L sc) (hL : L ≤ 3072) (hi : 0 ≤ i ∧ i + 6 ≤ (L : Int)) (hRel : Rel x y) (kk : ∀ (x1 : gX) (y1 : gY), Rel x1 y1 → gW Θ l D ad 4 1248 (lwL ad b i) [] x1 y1) : gW Θ l D ad 4 1055 (lwL ad b i) [] x y := by
  refine g_aload_n F dL_law_1055 rfl 2 rfl ?_
  refine g_aload_n F dL_law_1056 rfl 3 rfl ?_
  refine g_iload_n F dL_law_1057 rfl 0 rfl ?_
  refine g_iconst F dL_law_1058 (1) (by decide) ?_
  refine g_iadd F dL_law_1059 ?_
  refine g_sld F hX (by omega) hL dL_law_1060 ?_
  refine g_callV 1 F (As := [.int (J (sc (i + 1)))]) (st := []) (c_X7_odds l D ad x y (sc (i + 1)) (sc_r hX _) hRel.1) gR_7 rfl mk_L_142 ki_X7_odds kc_X7_odds (by decide +kernel) rfl (by decide) dL_law_1061 rfl (Nat.le_of_ble_eq_true rfl) (pI_k ?_)
  refine g_aload_n F dL_law_1064 rfl 1 rfl ?_
  refine g_aload_n F dL_law_1065 rfl 3 rfl ?_
  refine g_iload_n F dL_law_1066 rfl 0 rfl ?_
  refine g_iconst F dL_law_1067 (1) (by decide) ?_
  refine g_iadd F dL_law_1068 ?_
  refine g_sld F hX (by omega) hL dL_law_1069 ?_
  refine g_callV 1 F (As := [.int (J (sc (i + 1)))]) (st := [.int (J ((sOdds x (sc (i + 1))).1))]) (c_X8_odds l D ad ((sOdds x (sc (i + 1))).2) y x (sc (i + 1)) (sc_r hX _) hRel) gR_8 rfl mk_L_145 ki_X8_odds kc_X8_odds (by decide +kernel) rfl (by decide) dL_law_1070 rfl (Nat.le_of_ble_eq_true rfl) (pH_k (fun v hv => ?_))
  refine g_same 1248 F dL_law_1073 rfl ?_
  exact kk _ _ (hv)

theorem lc_32 {Θ : gT} {l : Launch} {D : gD} {ad : gA} {b L : Nat} {sc : Int → Int} {i : Int} {x : gX} {y : gY} (F : gF Θ l D ad cL_law RL 4 20) (hX : gScr Θ b L sc) (hL : L ≤ 3072) (hi : 0 ≤ i ∧ i + 6 ≤ (L : Int)) (hRel : Rel x y) (kk : ∀ (x1 : gX) (y1 : gY), Rel x1 y1 → gW Θ l D ad 4 1248 (lwL ad b i) [] x1 y1) : gW Θ l D ad 4 1078 (lwL ad b i) [] x y := by
  refine g_aload_n F dL_law_1078 rfl 2 rfl ?_
  refine g_aload_n F dL_law_1079 rfl 3 rfl ?_
  refine g_iload_n F dL_law_1080 rfl 0 rfl ?_
  refine g_iconst F dL_law_1081 (1) (by decide) ?_
  refine g_iadd F dL_law_1082 ?_
  refine g_sld F hX (by omega) hL dL_law_1083 ?_
  refine g_callV 1 F (As := [.int (J (sc (i + 1)))]) (st := []) (c_X7_mid l D ad x y (sc (i + 1)) (sc_r hX _) hRel.1) gR_7 rfl mk_L_146 ki_X7_mid kc_X7_mid (by decide +kernel) rfl (by decide) dL_law_1084 rfl (Nat.le_of_ble_eq_true rfl) (pI_k ?_)
  refine g_aload_n F dL_law_1087 rfl 1 rfl ?_
  refine g_aload_n F dL_law_1088 rfl 3 rfl ?_
  refine g_iload_n F dL_law_1089 rfl 0 rfl ?_
  refine g_iconst F dL_law_1090 (1) (by decide) ?_
  refine g_iadd F dL_law_1091 ?_
  refine g_sld F hX (by omega) hL dL_law_1092 ?_
  refine g_callV 1 F (As := [.int (J (sc (i + 1)))]) (st := [.int (J ((sMid x (sc (i + 1))).1))]) (c_X8_mid l D ad ((sMid x (sc (i + 1))).2) y x (sc (i + 1)) (sc_r hX _) hRel) gR_8 rfl mk_L_149 ki_X8_mid kc_X8_mid (by decide +kernel) rfl (by decide) dL_law_1093 rfl (Nat.le_of_ble_eq_true rfl) (pH_k (fun v hv => ?_))
  refine g_same 1248 F dL_law_1096 rfl ?_
  exact kk _ _ (hv)

theorem lc_33 {Θ : gT} {l : Launch} {D : gD} {ad : gA} {b L : Nat} {sc : Int → Int} {i : Int} {x : gX} {y : gY} (F : gF Θ l D ad cL_law RL 4 20) (hX : gScr Θ b L sc) (hL : L ≤ 3072) (hi : 0 ≤ i ∧ i + 6 ≤ (L : Int)) (hRel : Rel x y) (kk : ∀ (x1 : gX) (y1 : gY), Rel x1 y1 → gW Θ l D ad 4 1248 (lwL ad b i) [] x1 y1) : gW Θ l D ad 4 1101 (lwL ad b i) [] x y := by
  refine g_aload_n F dL_law_1101 rfl 2 rfl ?_
  refine g_aload_n F dL_law_1102 rfl 3 rfl ?_
  refine g_iload_n F dL_law_1103 rfl 0 rfl ?_
  refine g_iconst F dL_law_1104 (1) (by decide) ?_
  refine g_iadd F dL_law_1105 ?_
  refine g_sld F hX (by omega) hL dL_law_1106 ?_
  refine g_aload_n F dL_law_1107 rfl 3 rfl ?_
  refine g_iload_n F dL_law_1108 rfl 0 rfl ?_
  refine g_iconst F dL_law_1109 (2) (by decide) ?_
  refine g_iadd F dL_law_1110 ?_
  refine g_sld F hX (by omega) hL dL_law_1111 ?_
  refine g_callV 2 F (As := [.int (J (sc (i + 1))), .int (J (sc (i + 2)))]) (st := []) (c_X7_lots l D ad x y (sc (i + 1)) (sc (i + 2)) (sc_r hX _) (sc_r hX _) hRel.1) gR_7 rfl mk_L_150 ki_X7_lots kc_X7_lots (by decide +kernel) rfl (by decide) dL_law_1112 rfl (Nat.le_of_ble_eq_true rfl) (pI_k ?_)
  refine g_aload_n F dL_law_1115 rfl 1 rfl ?_
  refine g_aload_n F dL_law_1116 rfl 3 rfl ?_
  refine g_iload_n F dL_law_1117 rfl 0 rfl ?_
  refine g_iconst F dL_law_1118 (1) (by decide) ?_
  refine g_iadd F dL_law_1119 ?_
  refine g_sld F hX (by omega) hL dL_law_1120 ?_
  refine g_aload_n F dL_law_1121 rfl 3 rfl ?_
  refine g_iload_n F dL_law_1122 rfl 0 rfl ?_
  refine g_iconst F dL_law_1123 (2) (by decide) ?_
  refine g_iadd F dL_law_1124 ?_
  refine g_sld F hX (by omega) hL dL_law_1125 ?_
  refine g_callV 2 F (As := [.int (J (sc (i + 1))), .int (J (sc (i + 2)))]) (st := [.int (J ((sLots x (sc (i + 1)) (sc (i + 2))).1))]) (c_X8_lots l D ad ((sLots x (sc (i + 1)) (sc (i + 2))).2) y x (sc (i + 1)) (sc (i + 2)) (sc_r hX _) (sc_r hX _) hRel) gR_8 rfl mk_L_153 ki_X8_lots kc_X8_lots (by decide +kernel) rfl (by decide) dL_law_1126 rfl (Nat.le_of_ble_eq_true rfl) (pH_k (fun v hv => ?_))
  refine g_same 1248 F dL_law_1129 rfl ?_
  exact kk _ _ (hv)

theorem lc_34 {Θ : gT} {l : Launch} {D : gD} {ad : gA} {b L : Nat} {sc : Int → Int} {i : Int} {x : gX} {y : gY} (F : gF Θ l D ad cL_law RL 4 20) (hX : gScr Θ b L sc) (hL : L ≤ 3072) (hi : 0 ≤ i ∧ i + 6 ≤ (L : Int)) (hRel : Rel x y) (kk : ∀ (x1 : gX) (y1 : gY), Rel x1 y1 → gW Θ l D ad 4 1248 (lwL ad b i) [] x1 y1) : gW Θ l D ad 4 1134 (lwL ad b i) [] x y := by
  refine g_aload_n F dL_law_1134 rfl 2 rfl ?_
  refine g_callV 0 F (As := []) (st := []) (c_X7_asked l D ad x y  ) gR_7 rfl mk_L_154 ki_X7_asked kc_X7_asked (by decide +kernel) rfl (by decide) dL_law_1135 rfl (Nat.le_of_ble_eq_true rfl) (pI_k ?_)
  refine g_aload_n F dL_law_1138 rfl 1 rfl ?_
  refine g_callV 0 F (As := []) (st := [.int (J (x 19 0 0))]) (c_X8_asked l D ad x y x hRel) gR_8 rfl mk_L_157 ki_X8_asked kc_X8_asked (by decide +kernel) rfl (by decide) dL_law_1139 rfl (Nat.le_of_ble_eq_true rfl) (pI_k ?_)
  refine g_same 1248 F dL_law_1142 rfl ?_
  exact kk _ _ hRel

theorem lc_35 {Θ : gT} {l : Launch} {D : gD} {ad : gA} {b L : Nat} {sc : Int → Int} {i : Int} {x : gX} {y : gY} (F : gF Θ l D ad cL_law RL 4 20) (hX : gScr Θ b L sc) (hL : L ≤ 3072) (hi : 0 ≤ i ∧ i + 6 ≤ (L : Int)) (hRel : Rel x y) (kk : ∀ (x1 : gX) (y1 : gY), Rel x1 y1 → gW Θ l D ad 4 1248 (lwL ad b i) [] x1 y1) : gW Θ l D ad 4 1147 (lwL ad b i) [] x y := by
  refine g_aload_n F dL_law_1147 rfl 2 rfl ?_
  refine g_callV 0 F (As := []) (st := []) (c_X7_upper l D ad x y  ) gR_7 rfl mk_L_158 ki_X7_upper kc_X7_upper (by decide +kernel) rfl (by decide) dL_law_1148 rfl (Nat.le_of_ble_eq_true rfl) (pL_k ?_)
  refine g_aload_n F dL_law_1151 rfl 1 rfl ?_
  refine g_callV 0 F (As := []) (st := [.long (Lg (x 8 0 0))]) (c_X8_upper l D ad x y x hRel) gR_8 rfl mk_L_162 ki_X8_upper kc_X8_upper (by decide +kernel) rfl (by decide) dL_law_1152 rfl (Nat.le_of_ble_eq_true rfl) (pL_k ?_)
  refine g_sameL 1248 F dL_law_1155 dL_law_1156 rfl ?_
  exact kk _ _ hRel

theorem lc_36 {Θ : gT} {l : Launch} {D : gD} {ad : gA} {b L : Nat} {sc : Int → Int} {i : Int} {x : gX} {y : gY} (F : gF Θ l D ad cL_law RL 4 20) (hX : gScr Θ b L sc) (hL : L ≤ 3072) (hi : 0 ≤ i ∧ i + 6 ≤ (L : Int)) (hRel : Rel x y) (kk : ∀ (x1 : gX) (y1 : gY), Rel x1 y1 → gW Θ l D ad 4 1248 (lwL ad b i) [] x1 y1) : gW Θ l D ad 4 1161 (lwL ad b i) [] x y := by
  refine g_aload_n F dL_law_1161 rfl 2 rfl ?_
  refine g_callV 0 F (As := []) (st := []) (c_X7_lower l D ad x y  ) gR_7 rfl mk_L_163 ki_X7_lower kc_X7_lower (by decide +kernel) rfl (by decide) dL_law_1162 rfl (Nat.le_of_ble_eq_true rfl) (pL_k ?_)
  refine g_aload_n F dL_law_1165 rfl 1 rfl ?_
  refine g_callV 0 F (As := []) (st := [.long (Lg (x 9 0 0))]) (c_X8_lower l D ad x y x hRel) gR_8 rfl mk_L_166 ki_X8_lower kc_X8_lower (by decide +kernel) rfl (by decide) dL_law_1166 rfl (Nat.le_of_ble_eq_true rfl) (pL_k ?_)
  refine g_sameL 1248 F dL_law_1169 dL_law_1170 rfl ?_
  exact kk _ _ hRel

theorem lc_37 {Θ : gT} {l : Launch} {D : gD} {ad : gA} {b L : Nat} {sc : Int → Int} {i : Int} {x : gX} {y : gY} (F : gF Θ l D ad cL_law RL 4 20) (hX : gScr Θ b L sc) (hL : L ≤ 3072) (hi : 0 ≤ i ∧ i + 6 ≤ (L : Int)) (hRel : Rel x y) (kk : ∀ (x1 : gX) (y1 : gY), Rel x1 y1 → gW Θ l D ad 4 1248 (lwL ad b i) [] x1 y1) : gW Θ l D ad 4 1175 (lwL ad b i) [] x y := by
  refine g_aload_n F dL_law_1175 rfl 2 rfl ?_
  refine g_aload_n F dL_law_1176 rfl 3 rfl ?_
  refine g_iload_n F dL_law_1177 rfl 0 rfl ?_
  refine g_iconst F dL_law_1178 (1) (by decide) ?_
  refine g_iadd F dL_law_1179 ?_
  refine g_sld F hX (by omega) hL dL_law_1180 ?_
  refine g_callV 1 F (As := [.int (J (sc (i + 1)))]) (st := []) (c_X7_count l D ad x y (sc (i + 1)) (sc_r hX _) hRel.1) gR_7 rfl mk_L_167 ki_X7_count kc_X7_count (by decide +kernel) rfl (by decide) dL_law_1181 rfl (Nat.le_of_ble_eq_true rfl) (pI_k ?_)
  refine g_aload_n F dL_law_1184 rfl 1 rfl ?_
  refine g_aload_n F dL_law_1185 rfl 3 rfl ?_
  refine g_iload_n F dL_law_1186 rfl 0 rfl ?_
  refine g_iconst F dL_law_1187 (1) (by decide) ?_
  refine g_iadd F dL_law_1188 ?_
  refine g_sld F hX (by omega) hL dL_law_1189 ?_
  refine g_callV 1 F (As := [.int (J (sc (i + 1)))]) (st := [.int (J (ctU x (sc (i + 1))))]) (c_X8_count l D ad x y x (sc (i + 1)) (sc_r hX _) hRel) gR_8 rfl mk_L_170 ki_X8_count kc_X8_count (by decide +kernel) rfl (by decide) dL_law_1190 rfl (Nat.le_of_ble_eq_true rfl) (pI_k ?_)
  refine g_same 1248 F dL_law_1193 rfl ?_
  exact kk _ _ hRel

theorem lc_38 {Θ : gT} {l : Launch} {D : gD} {ad : gA} {b L : Nat} {sc : Int → Int} {i : Int} {x : gX} {y : gY} (F : gF Θ l D ad cL_law RL 4 20) (hX : gScr Θ b L sc) (hL : L ≤ 3072) (hi : 0 ≤ i ∧ i + 6 ≤ (L : Int)) (hRel : Rel x y) (kk : ∀ (x1 : gX) (y1 : gY), Rel x1 y1 → gW Θ l D ad 4 1248 (lwL ad b i) [] x1 y1) : gW Θ l D ad 4 1198 (lwL ad b i) [] x y := by
  refine g_aload_n F dL_law_1198 rfl 2 rfl ?_
  refine g_callV 0 F (As := []) (st := []) (c_X7_finding l D ad x y  ) gR_7 rfl mk_L_171 ki_X7_finding kc_X7_finding (by decide +kernel) rfl (by decide) dL_law_1199 rfl (Nat.le_of_ble_eq_true rfl) (pI_k ?_)
  refine g_aload_n F dL_law_1202 rfl 1 rfl ?_
  refine g_callV 0 F (As := []) (st := [.int (J (x 18 0 0))]) (c_X8_finding l D ad x y x hRel) gR_8 rfl mk_L_174 ki_X8_finding kc_X8_finding (by decide +kernel) rfl (by decide) dL_law_1203 rfl (Nat.le_of_ble_eq_true rfl) (pI_k ?_)
  refine g_same 1248 F dL_law_1206 rfl ?_
  exact kk _ _ hRel

theorem lc_39 {Θ : gT} {l : Launch} {D : gD} {ad : gA} {b L : Nat} {sc : Int → Int} {i : Int} {x : gX} {y : gY} (F : gF Θ l D ad cL_law RL 4 20) (hX : gScr Θ b L sc) (hL : L ≤ 3072) (hi : 0 ≤ i ∧ i + 6 ≤ (L : Int)) (hRel : Rel x y) (kk : ∀ (x1 : gX) (y1 : gY), Rel x1 y1 → gW Θ l D ad 4 1248 (lwL ad b i) [] x1 y1) : gW Θ l D ad 4 1211 (lwL ad b i) [] x y := by
  refine g_aload_n F dL_law_1211 rfl 2 rfl ?_
  refine g_aload_n F dL_law_1212 rfl 3 rfl ?_
  refine g_iload_n F dL_law_1213 rfl 0 rfl ?_
  refine g_iconst F dL_law_1214 (1) (by decide) ?_
  refine g_iadd F dL_law_1215 ?_
  refine g_sld F hX (by omega) hL dL_law_1216 ?_
  refine g_callV 1 F (As := [.int (J (sc (i + 1)))]) (st := []) (c_X7_findings l D ad x y (sc (i + 1)) (sc_r hX _)) gR_7 rfl mk_L_175 ki_X7_findings kc_X7_findings (by decide +kernel) rfl (by decide) dL_law_1217 rfl (Nat.le_of_ble_eq_true rfl) (pI_k ?_)
  refine g_aload_n F dL_law_1220 rfl 1 rfl ?_
  refine g_aload_n F dL_law_1221 rfl 3 rfl ?_
  refine g_iload_n F dL_law_1222 rfl 0 rfl ?_
  refine g_iconst F dL_law_1223 (1) (by decide) ?_
  refine g_iadd F dL_law_1224 ?_
  refine g_sld F hX (by omega) hL dL_law_1225 ?_
  refine g_callV 1 F (As := [.int (J (sc (i + 1)))]) (st := [.int (J (sFindings x (sc (i + 1))))]) (c_X8_findings l D ad x y x (sc (i + 1)) (sc_r hX _) hRel) gR_8 rfl mk_L_178 ki_X8_findings kc_X8_findings (by decide +kernel) rfl (by decide) dL_law_1226 rfl (Nat.le_of_ble_eq_true rfl) (pI_k ?_)
  refine g_same 1248 F dL_law_1229 rfl ?_
  exact kk _ _ hRel

theorem lc_40 {Θ : gT} {l : Launch} {D : gD} {ad : gA} {b L : Nat} {sc : Int → Int} {i : Int} {x : gX} {y : gY} (F : gF Θ l D ad cL_law RL 4 20) (hX : gScr Θ b L sc) (hL : L ≤ 3072) (hi : 0 ≤ i ∧ i + 6 ≤ (L : Int)) (hRel : Rel x y) (kk : ∀ (x1 : gX) (y1 : gY), Rel x1 y1 → gW Θ l D ad 4 1248 (lwL ad b i) [] x1 y1) : gW Θ l D ad 4 1234 (lwL ad b i) [] x y := by
  refine g_aload_n F dL_law_1234 rfl 2 rfl ?_
  refine g_callV 0 F (As := []) (st := []) (c_X7_digest l D ad x y  hRel.1) gR_7 rfl mk_L_179 ki_X7_digest kc_X7_digest (by decide +kernel) rfl (by decide) dL_law_1235 rfl (Nat.le_of_ble_eq_true rfl) (pL_k ?_)
  refine g_aload_n F dL_law_1238 rfl 1 rfl ?_
  refine g_callV 0 F (As := []) (st := [.long (Lg (sDigest x))]) (c_X8_digest l D ad x y x hRel) gR_8 rfl mk_L_182 ki_X8_digest kc_X8_digest (by decide +kernel) rfl (by decide) dL_law_1239 rfl (Nat.le_of_ble_eq_true rfl) (pL_k ?_)
  refine g_sameL 1248 F dL_law_1242 dL_law_1243 rfl ?_
  exact kk _ _ hRel
