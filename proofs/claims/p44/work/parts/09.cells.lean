theorem gg_Court_men {Θ : gT} {l : Launch} {D : gD} {ad : gA} {cc : ByteArray} {own : String} {nL d pc : Nat} {lv : List (Nat × Value)} {st : List Value} {x : gX} {y : gY} {idx : Nat} (F : gF Θ l D ad cc own nL d) (hw : Cond.fieldLink own idx "ThirdDay$Court" (TX0 0).2.1 (TX0 0).2.2.1 ∈ wA) (hd : decode cc pc = .ok (.getfield idx, 3)) (kk : gW Θ l D ad nL (pc + 3) lv (.ref (ad 32 0) :: st) x y) : gW Θ l D ad nL pc lv (.ref (ad 0 0) :: st) x y := by
  obtain ⟨p, e, R, s, m, args, below, meth, c, Q, A, H0, cells, slots⟩ := Θ
  obtain ⟨hx, hb, hml, ho, hts, hN, hK, hAp, hr1, hr2, hr3, hr4⟩ := F
  intro H locs ls hl hP hS
  exact va_get (D := D.1) (ci := 0) (C := RX0) (T := TX0) (N := 9) hx hb hts lA0 ho hK hP (0) (gV_at gI_0) rfl 0 (by decide) (hts _ hw) (fun _ h => h) rfl hd (kk H locs ls hl hP hS)
theorem ggN_Court_men {Θ : gT} {l : Launch} {D : gD} {ad : gA} {cc : ByteArray} {own : String} {nL d pc : Nat} {lv : List (Nat × Value)} {st : List Value} {x : gX} {y : gY} {host : String} {idx : Nat} (F : gF Θ l D ad cc own nL d) (hw : Cond.fieldLinkNest own idx "ThirdDay$Court" (TX0 0).2.1 (TX0 0).2.2.1 host ∈ wN) (hd : decode cc pc = .ok (.getfield idx, 3)) (kk : gW Θ l D ad nL (pc + 3) lv (.ref (ad 32 0) :: st) x y) : gW Θ l D ad nL pc lv (.ref (ad 0 0) :: st) x y := by
  obtain ⟨p, e, R, s, m, args, below, meth, c, Q, A, H0, cells, slots⟩ := Θ
  obtain ⟨hx, hb, hml, ho, hts, hN, hK, hAp, hr1, hr2, hr3, hr4⟩ := F
  intro H locs ls hl hP hS
  exact va_getN (D := D.1) (ci := 0) (C := RX0) (T := TX0) (N := 9) hx hb hts lA0 ho hK hP (0) (gV_at gI_0) rfl 0 (by decide) (va_Nw.use rfl (hN _ hw)) (fun _ h => h) rfl hd (kk H locs ls hl hP hS)
theorem gg_Court_supposed {Θ : gT} {l : Launch} {D : gD} {ad : gA} {cc : ByteArray} {own : String} {nL d pc : Nat} {lv : List (Nat × Value)} {st : List Value} {x : gX} {y : gY} {idx : Nat} (F : gF Θ l D ad cc own nL d) (hw : Cond.fieldLink own idx "ThirdDay$Court" (TX0 1).2.1 (TX0 1).2.2.1 ∈ wA) (hd : decode cc pc = .ok (.getfield idx, 3)) (kk : gW Θ l D ad nL (pc + 3) lv (.ref (ad 3 6) :: st) x y) : gW Θ l D ad nL pc lv (.ref (ad 0 0) :: st) x y := by
  obtain ⟨p, e, R, s, m, args, below, meth, c, Q, A, H0, cells, slots⟩ := Θ
  obtain ⟨hx, hb, hml, ho, hts, hN, hK, hAp, hr1, hr2, hr3, hr4⟩ := F
  intro H locs ls hl hP hS
  exact va_get (D := D.1) (ci := 0) (C := RX0) (T := TX0) (N := 9) hx hb hts lA0 ho hK hP (0) (gV_at gI_0) rfl 1 (by decide) (hts _ hw) (fun _ h => h) rfl hd (kk H locs ls hl hP hS)
theorem ggN_Court_supposed {Θ : gT} {l : Launch} {D : gD} {ad : gA} {cc : ByteArray} {own : String} {nL d pc : Nat} {lv : List (Nat × Value)} {st : List Value} {x : gX} {y : gY} {host : String} {idx : Nat} (F : gF Θ l D ad cc own nL d) (hw : Cond.fieldLinkNest own idx "ThirdDay$Court" (TX0 1).2.1 (TX0 1).2.2.1 host ∈ wN) (hd : decode cc pc = .ok (.getfield idx, 3)) (kk : gW Θ l D ad nL (pc + 3) lv (.ref (ad 3 6) :: st) x y) : gW Θ l D ad nL pc lv (.ref (ad 0 0) :: st) x y := by
  obtain ⟨p, e, R, s, m, args, below, meth, c, Q, A, H0, cells, slots⟩ := Θ
  obtain ⟨hx, hb, hml, ho, hts, hN, hK, hAp, hr1, hr2, hr3, hr4⟩ := F
  intro H locs ls hl hP hS
  exact va_getN (D := D.1) (ci := 0) (C := RX0) (T := TX0) (N := 9) hx hb hts lA0 ho hK hP (0) (gV_at gI_0) rfl 1 (by decide) (va_Nw.use rfl (hN _ hw)) (fun _ h => h) rfl hd (kk H locs ls hl hP hS)
theorem gg_Court_deeds {Θ : gT} {l : Launch} {D : gD} {ad : gA} {cc : ByteArray} {own : String} {nL d pc : Nat} {lv : List (Nat × Value)} {st : List Value} {x : gX} {y : gY} {idx : Nat} (F : gF Θ l D ad cc own nL d) (hw : Cond.fieldLink own idx "ThirdDay$Court" (TX0 2).2.1 (TX0 2).2.2.1 ∈ wA) (hd : decode cc pc = .ok (.getfield idx, 3)) (kk : gW Θ l D ad nL (pc + 3) lv (.ref (ad 1 0) :: st) x y) : gW Θ l D ad nL pc lv (.ref (ad 0 0) :: st) x y := by
  obtain ⟨p, e, R, s, m, args, below, meth, c, Q, A, H0, cells, slots⟩ := Θ
  obtain ⟨hx, hb, hml, ho, hts, hN, hK, hAp, hr1, hr2, hr3, hr4⟩ := F
  intro H locs ls hl hP hS
  exact va_get (D := D.1) (ci := 0) (C := RX0) (T := TX0) (N := 9) hx hb hts lA0 ho hK hP (0) (gV_at gI_0) rfl 2 (by decide) (hts _ hw) (fun _ h => h) rfl hd (kk H locs ls hl hP hS)
theorem ggN_Court_deeds {Θ : gT} {l : Launch} {D : gD} {ad : gA} {cc : ByteArray} {own : String} {nL d pc : Nat} {lv : List (Nat × Value)} {st : List Value} {x : gX} {y : gY} {host : String} {idx : Nat} (F : gF Θ l D ad cc own nL d) (hw : Cond.fieldLinkNest own idx "ThirdDay$Court" (TX0 2).2.1 (TX0 2).2.2.1 host ∈ wN) (hd : decode cc pc = .ok (.getfield idx, 3)) (kk : gW Θ l D ad nL (pc + 3) lv (.ref (ad 1 0) :: st) x y) : gW Θ l D ad nL pc lv (.ref (ad 0 0) :: st) x y := by
  obtain ⟨p, e, R, s, m, args, below, meth, c, Q, A, H0, cells, slots⟩ := Θ
  obtain ⟨hx, hb, hml, ho, hts, hN, hK, hAp, hr1, hr2, hr3, hr4⟩ := F
  intro H locs ls hl hP hS
  exact va_getN (D := D.1) (ci := 0) (C := RX0) (T := TX0) (N := 9) hx hb hts lA0 ho hK hP (0) (gV_at gI_0) rfl 2 (by decide) (va_Nw.use rfl (hN _ hw)) (fun _ h => h) rfl hd (kk H locs ls hl hP hS)
theorem gg_Court_size {Θ : gT} {l : Launch} {D : gD} {ad : gA} {cc : ByteArray} {own : String} {nL d pc : Nat} {lv : List (Nat × Value)} {st : List Value} {x : gX} {y : gY} {idx : Nat} (F : gF Θ l D ad cc own nL d) (hw : Cond.fieldLink own idx "ThirdDay$Court" (TX0 3).2.1 (TX0 3).2.2.1 ∈ wA) (hd : decode cc pc = .ok (.getfield idx, 3)) (kk : gW Θ l D ad nL (pc + 3) lv (.int (J (x 10 0 0)) :: st) x y) : gW Θ l D ad nL pc lv (.ref (ad 0 0) :: st) x y := by
  obtain ⟨p, e, R, s, m, args, below, meth, c, Q, A, H0, cells, slots⟩ := Θ
  obtain ⟨hx, hb, hml, ho, hts, hN, hK, hAp, hr1, hr2, hr3, hr4⟩ := F
  intro H locs ls hl hP hS
  exact va_get (D := D.1) (ci := 0) (C := RX0) (T := TX0) (N := 9) hx hb hts lA0 ho hK hP (0) (gV_at gI_0) rfl 3 (by decide) (hts _ hw) (fun _ h => h) rfl hd (kk H locs ls hl hP hS)
theorem gp_Court_size {Θ : gT} {l : Launch} {D : gD} {ad : gA} {cc : ByteArray} {own : String} {nL d pc : Nat} {lv : List (Nat × Value)} {st : List Value} {x : gX} {y : gY} {a : Int} {idx : Nat} (F : gF Θ l D ad cc own nL d) (hw : Cond.fieldLink own idx "ThirdDay$Court" (TX0 3).2.1 (TX0 3).2.2.1 ∈ wA) (hd : decode cc pc = .ok (.putfield idx, 3)) (kk : gW Θ l D ad nL (pc + 3) lv st (xU x 10 0 0 a) y) : gW Θ l D ad nL pc lv (.int (J a) :: .ref (ad 0 0) :: st) x y := by
  obtain ⟨p, e, R, s, m, args, below, meth, c, Q, A, H0, cells, slots⟩ := Θ
  obtain ⟨hx, hb, hml, ho, hts, hN, hK, hAp, hr1, hr2, hr3, hr4⟩ := F
  intro H locs ls hl hP hS
  refine va_put (D := D.1) (ci := 0) (C := RX0) (T := TX0) (N := 9) hx hb hts lA0 tyX0 tyX0_ok nmX0 ho hK hP (gAp_D hAp) hS (0) (gV_at gI_0) rfl 3 (by decide) (hts _ hw) (fun _ h => h) rfl (ty := .int) (by decide +kernel) rfl rfl (Nat.le_of_ble_eq_true rfl) hd (fun H locs hP _ hS => kk H locs ls hl ?_ hS)
  refine Eq.mp (congrArg (fun q => va_P D.1 vwCl q H) (gV_set gI_0 ?_)) hP
  intro k1 i1
  exact gE_p_0_10 k1 i1
theorem ggN_Court_size {Θ : gT} {l : Launch} {D : gD} {ad : gA} {cc : ByteArray} {own : String} {nL d pc : Nat} {lv : List (Nat × Value)} {st : List Value} {x : gX} {y : gY} {host : String} {idx : Nat} (F : gF Θ l D ad cc own nL d) (hw : Cond.fieldLinkNest own idx "ThirdDay$Court" (TX0 3).2.1 (TX0 3).2.2.1 host ∈ wN) (hd : decode cc pc = .ok (.getfield idx, 3)) (kk : gW Θ l D ad nL (pc + 3) lv (.int (J (x 10 0 0)) :: st) x y) : gW Θ l D ad nL pc lv (.ref (ad 0 0) :: st) x y := by
  obtain ⟨p, e, R, s, m, args, below, meth, c, Q, A, H0, cells, slots⟩ := Θ
  obtain ⟨hx, hb, hml, ho, hts, hN, hK, hAp, hr1, hr2, hr3, hr4⟩ := F
  intro H locs ls hl hP hS
  exact va_getN (D := D.1) (ci := 0) (C := RX0) (T := TX0) (N := 9) hx hb hts lA0 ho hK hP (0) (gV_at gI_0) rfl 3 (by decide) (va_Nw.use rfl (hN _ hw)) (fun _ h => h) rfl hd (kk H locs ls hl hP hS)
theorem gpN_Court_size {Θ : gT} {l : Launch} {D : gD} {ad : gA} {cc : ByteArray} {own : String} {nL d pc : Nat} {lv : List (Nat × Value)} {st : List Value} {x : gX} {y : gY} {host : String} {a : Int} {idx : Nat} (F : gF Θ l D ad cc own nL d) (hw : Cond.fieldLinkNest own idx "ThirdDay$Court" (TX0 3).2.1 (TX0 3).2.2.1 host ∈ wN) (hd : decode cc pc = .ok (.putfield idx, 3)) (kk : gW Θ l D ad nL (pc + 3) lv st (xU x 10 0 0 a) y) : gW Θ l D ad nL pc lv (.int (J a) :: .ref (ad 0 0) :: st) x y := by
  obtain ⟨p, e, R, s, m, args, below, meth, c, Q, A, H0, cells, slots⟩ := Θ
  obtain ⟨hx, hb, hml, ho, hts, hN, hK, hAp, hr1, hr2, hr3, hr4⟩ := F
  intro H locs ls hl hP hS
  refine va_putN (D := D.1) (ci := 0) (C := RX0) (T := TX0) (N := 9) hx hb hts lA0 tyX0 tyX0_ok nmX0 ho hK hP (gAp_D hAp) hS (0) (gV_at gI_0) rfl 3 (by decide) (va_Nw.use rfl (hN _ hw)) (fun _ h => h) rfl (ty := .int) (by decide +kernel) rfl rfl (Nat.le_of_ble_eq_true rfl) hd (fun H locs hP _ hS => kk H locs ls hl ?_ hS)
  refine Eq.mp (congrArg (fun q => va_P D.1 vwCl q H) (gV_set gI_0 ?_)) hP
  intro k1 i1
  exact gE_p_0_10 k1 i1
theorem gg_Court_pounds {Θ : gT} {l : Launch} {D : gD} {ad : gA} {cc : ByteArray} {own : String} {nL d pc : Nat} {lv : List (Nat × Value)} {st : List Value} {x : gX} {y : gY} {idx : Nat} (F : gF Θ l D ad cc own nL d) (hw : Cond.fieldLink own idx "ThirdDay$Court" (TX0 4).2.1 (TX0 4).2.2.1 ∈ wA) (hd : decode cc pc = .ok (.getfield idx, 3)) (kk : gW Θ l D ad nL (pc + 3) lv (.int (J (x 11 0 0)) :: st) x y) : gW Θ l D ad nL pc lv (.ref (ad 0 0) :: st) x y := by
  obtain ⟨p, e, R, s, m, args, below, meth, c, Q, A, H0, cells, slots⟩ := Θ
  obtain ⟨hx, hb, hml, ho, hts, hN, hK, hAp, hr1, hr2, hr3, hr4⟩ := F
  intro H locs ls hl hP hS
  exact va_get (D := D.1) (ci := 0) (C := RX0) (T := TX0) (N := 9) hx hb hts lA0 ho hK hP (0) (gV_at gI_0) rfl 4 (by decide) (hts _ hw) (fun _ h => h) rfl hd (kk H locs ls hl hP hS)
theorem gp_Court_pounds {Θ : gT} {l : Launch} {D : gD} {ad : gA} {cc : ByteArray} {own : String} {nL d pc : Nat} {lv : List (Nat × Value)} {st : List Value} {x : gX} {y : gY} {a : Int} {idx : Nat} (F : gF Θ l D ad cc own nL d) (hw : Cond.fieldLink own idx "ThirdDay$Court" (TX0 4).2.1 (TX0 4).2.2.1 ∈ wA) (hd : decode cc pc = .ok (.putfield idx, 3)) (kk : gW Θ l D ad nL (pc + 3) lv st (xU x 11 0 0 a) y) : gW Θ l D ad nL pc lv (.int (J a) :: .ref (ad 0 0) :: st) x y := by
  obtain ⟨p, e, R, s, m, args, below, meth, c, Q, A, H0, cells, slots⟩ := Θ
  obtain ⟨hx, hb, hml, ho, hts, hN, hK, hAp, hr1, hr2, hr3, hr4⟩ := F
  intro H locs ls hl hP hS
  refine va_put (D := D.1) (ci := 0) (C := RX0) (T := TX0) (N := 9) hx hb hts lA0 tyX0 tyX0_ok nmX0 ho hK hP (gAp_D hAp) hS (0) (gV_at gI_0) rfl 4 (by decide) (hts _ hw) (fun _ h => h) rfl (ty := .int) (by decide +kernel) rfl rfl (Nat.le_of_ble_eq_true rfl) hd (fun H locs hP _ hS => kk H locs ls hl ?_ hS)
  refine Eq.mp (congrArg (fun q => va_P D.1 vwCl q H) (gV_set gI_0 ?_)) hP
  intro k1 i1
  exact gE_p_0_11 k1 i1
theorem ggN_Court_pounds {Θ : gT} {l : Launch} {D : gD} {ad : gA} {cc : ByteArray} {own : String} {nL d pc : Nat} {lv : List (Nat × Value)} {st : List Value} {x : gX} {y : gY} {host : String} {idx : Nat} (F : gF Θ l D ad cc own nL d) (hw : Cond.fieldLinkNest own idx "ThirdDay$Court" (TX0 4).2.1 (TX0 4).2.2.1 host ∈ wN) (hd : decode cc pc = .ok (.getfield idx, 3)) (kk : gW Θ l D ad nL (pc + 3) lv (.int (J (x 11 0 0)) :: st) x y) : gW Θ l D ad nL pc lv (.ref (ad 0 0) :: st) x y := by
  obtain ⟨p, e, R, s, m, args, below, meth, c, Q, A, H0, cells, slots⟩ := Θ
  obtain ⟨hx, hb, hml, ho, hts, hN, hK, hAp, hr1, hr2, hr3, hr4⟩ := F
  intro H locs ls hl hP hS
  exact va_getN (D := D.1) (ci := 0) (C := RX0) (T := TX0) (N := 9) hx hb hts lA0 ho hK hP (0) (gV_at gI_0) rfl 4 (by decide) (va_Nw.use rfl (hN _ hw)) (fun _ h => h) rfl hd (kk H locs ls hl hP hS)
theorem gpN_Court_pounds {Θ : gT} {l : Launch} {D : gD} {ad : gA} {cc : ByteArray} {own : String} {nL d pc : Nat} {lv : List (Nat × Value)} {st : List Value} {x : gX} {y : gY} {host : String} {a : Int} {idx : Nat} (F : gF Θ l D ad cc own nL d) (hw : Cond.fieldLinkNest own idx "ThirdDay$Court" (TX0 4).2.1 (TX0 4).2.2.1 host ∈ wN) (hd : decode cc pc = .ok (.putfield idx, 3)) (kk : gW Θ l D ad nL (pc + 3) lv st (xU x 11 0 0 a) y) : gW Θ l D ad nL pc lv (.int (J a) :: .ref (ad 0 0) :: st) x y := by
  obtain ⟨p, e, R, s, m, args, below, meth, c, Q, A, H0, cells, slots⟩ := Θ
  obtain ⟨hx, hb, hml, ho, hts, hN, hK, hAp, hr1, hr2, hr3, hr4⟩ := F
  intro H locs ls hl hP hS
  refine va_putN (D := D.1) (ci := 0) (C := RX0) (T := TX0) (N := 9) hx hb hts lA0 tyX0 tyX0_ok nmX0 ho hK hP (gAp_D hAp) hS (0) (gV_at gI_0) rfl 4 (by decide) (va_Nw.use rfl (hN _ hw)) (fun _ h => h) rfl (ty := .int) (by decide +kernel) rfl rfl (Nat.le_of_ble_eq_true rfl) hd (fun H locs hP _ hS => kk H locs ls hl ?_ hS)
  refine Eq.mp (congrArg (fun q => va_P D.1 vwCl q H) (gV_set gI_0 ?_)) hP
  intro k1 i1
  exact gE_p_0_11 k1 i1
theorem gg_Court_mercy {Θ : gT} {l : Launch} {D : gD} {ad : gA} {cc : ByteArray} {own : String} {nL d pc : Nat} {lv : List (Nat × Value)} {st : List Value} {x : gX} {y : gY} {idx : Nat} (F : gF Θ l D ad cc own nL d) (hw : Cond.fieldLink own idx "ThirdDay$Court" (TX0 5).2.1 (TX0 5).2.2.1 ∈ wA) (hd : decode cc pc = .ok (.getfield idx, 3)) (kk : gW Θ l D ad nL (pc + 3) lv (.int (J (x 12 0 0)) :: st) x y) : gW Θ l D ad nL pc lv (.ref (ad 0 0) :: st) x y := by
  obtain ⟨p, e, R, s, m, args, below, meth, c, Q, A, H0, cells, slots⟩ := Θ
  obtain ⟨hx, hb, hml, ho, hts, hN, hK, hAp, hr1, hr2, hr3, hr4⟩ := F
  intro H locs ls hl hP hS
  exact va_get (D := D.1) (ci := 0) (C := RX0) (T := TX0) (N := 9) hx hb hts lA0 ho hK hP (0) (gV_at gI_0) rfl 5 (by decide) (hts _ hw) (fun _ h => h) rfl hd (kk H locs ls hl hP hS)
theorem gp_Court_mercy {Θ : gT} {l : Launch} {D : gD} {ad : gA} {cc : ByteArray} {own : String} {nL d pc : Nat} {lv : List (Nat × Value)} {st : List Value} {x : gX} {y : gY} {a : Int} {idx : Nat} (F : gF Θ l D ad cc own nL d) (hw : Cond.fieldLink own idx "ThirdDay$Court" (TX0 5).2.1 (TX0 5).2.2.1 ∈ wA) (hd : decode cc pc = .ok (.putfield idx, 3)) (kk : gW Θ l D ad nL (pc + 3) lv st (xU x 12 0 0 a) y) : gW Θ l D ad nL pc lv (.int (J a) :: .ref (ad 0 0) :: st) x y := by
  obtain ⟨p, e, R, s, m, args, below, meth, c, Q, A, H0, cells, slots⟩ := Θ
  obtain ⟨hx, hb, hml, ho, hts, hN, hK, hAp, hr1, hr2, hr3, hr4⟩ := F
  intro H locs ls hl hP hS
  refine va_put (D := D.1) (ci := 0) (C := RX0) (T := TX0) (N := 9) hx hb hts lA0 tyX0 tyX0_ok nmX0 ho hK hP (gAp_D hAp) hS (0) (gV_at gI_0) rfl 5 (by decide) (hts _ hw) (fun _ h => h) rfl (ty := .int) (by decide +kernel) rfl rfl (Nat.le_of_ble_eq_true rfl) hd (fun H locs hP _ hS => kk H locs ls hl ?_ hS)
  refine Eq.mp (congrArg (fun q => va_P D.1 vwCl q H) (gV_set gI_0 ?_)) hP
  intro k1 i1
  exact gE_p_0_12 k1 i1
theorem ggN_Court_mercy {Θ : gT} {l : Launch} {D : gD} {ad : gA} {cc : ByteArray} {own : String} {nL d pc : Nat} {lv : List (Nat × Value)} {st : List Value} {x : gX} {y : gY} {host : String} {idx : Nat} (F : gF Θ l D ad cc own nL d) (hw : Cond.fieldLinkNest own idx "ThirdDay$Court" (TX0 5).2.1 (TX0 5).2.2.1 host ∈ wN) (hd : decode cc pc = .ok (.getfield idx, 3)) (kk : gW Θ l D ad nL (pc + 3) lv (.int (J (x 12 0 0)) :: st) x y) : gW Θ l D ad nL pc lv (.ref (ad 0 0) :: st) x y := by
  obtain ⟨p, e, R, s, m, args, below, meth, c, Q, A, H0, cells, slots⟩ := Θ
  obtain ⟨hx, hb, hml, ho, hts, hN, hK, hAp, hr1, hr2, hr3, hr4⟩ := F
  intro H locs ls hl hP hS
  exact va_getN (D := D.1) (ci := 0) (C := RX0) (T := TX0) (N := 9) hx hb hts lA0 ho hK hP (0) (gV_at gI_0) rfl 5 (by decide) (va_Nw.use rfl (hN _ hw)) (fun _ h => h) rfl hd (kk H locs ls hl hP hS)
theorem gpN_Court_mercy {Θ : gT} {l : Launch} {D : gD} {ad : gA} {cc : ByteArray} {own : String} {nL d pc : Nat} {lv : List (Nat × Value)} {st : List Value} {x : gX} {y : gY} {host : String} {a : Int} {idx : Nat} (F : gF Θ l D ad cc own nL d) (hw : Cond.fieldLinkNest own idx "ThirdDay$Court" (TX0 5).2.1 (TX0 5).2.2.1 host ∈ wN) (hd : decode cc pc = .ok (.putfield idx, 3)) (kk : gW Θ l D ad nL (pc + 3) lv st (xU x 12 0 0 a) y) : gW Θ l D ad nL pc lv (.int (J a) :: .ref (ad 0 0) :: st) x y := by
  obtain ⟨p, e, R, s, m, args, below, meth, c, Q, A, H0, cells, slots⟩ := Θ
  obtain ⟨hx, hb, hml, ho, hts, hN, hK, hAp, hr1, hr2, hr3, hr4⟩ := F
  intro H locs ls hl hP hS
  refine va_putN (D := D.1) (ci := 0) (C := RX0) (T := TX0) (N := 9) hx hb hts lA0 tyX0 tyX0_ok nmX0 ho hK hP (gAp_D hAp) hS (0) (gV_at gI_0) rfl 5 (by decide) (va_Nw.use rfl (hN _ hw)) (fun _ h => h) rfl (ty := .int) (by decide +kernel) rfl rfl (Nat.le_of_ble_eq_true rfl) hd (fun H locs hP _ hS => kk H locs ls hl ?_ hS)
  refine Eq.mp (congrArg (fun q => va_P D.1 vwCl q H) (gV_set gI_0 ?_)) hP
  intro k1 i1
  exact gE_p_0_12 k1 i1
theorem gg_Court_heals {Θ : gT} {l : Launch} {D : gD} {ad : gA} {cc : ByteArray} {own : String} {nL d pc : Nat} {lv : List (Nat × Value)} {st : List Value} {x : gX} {y : gY} {idx : Nat} (F : gF Θ l D ad cc own nL d) (hw : Cond.fieldLink own idx "ThirdDay$Court" (TX0 6).2.1 (TX0 6).2.2.1 ∈ wA) (hd : decode cc pc = .ok (.getfield idx, 3)) (kk : gW Θ l D ad nL (pc + 3) lv (.int (J (x 13 0 0)) :: st) x y) : gW Θ l D ad nL pc lv (.ref (ad 0 0) :: st) x y := by
  obtain ⟨p, e, R, s, m, args, below, meth, c, Q, A, H0, cells, slots⟩ := Θ
  obtain ⟨hx, hb, hml, ho, hts, hN, hK, hAp, hr1, hr2, hr3, hr4⟩ := F
  intro H locs ls hl hP hS
  exact va_get (D := D.1) (ci := 0) (C := RX0) (T := TX0) (N := 9) hx hb hts lA0 ho hK hP (0) (gV_at gI_0) rfl 6 (by decide) (hts _ hw) (fun _ h => h) rfl hd (kk H locs ls hl hP hS)
theorem gp_Court_heals {Θ : gT} {l : Launch} {D : gD} {ad : gA} {cc : ByteArray} {own : String} {nL d pc : Nat} {lv : List (Nat × Value)} {st : List Value} {x : gX} {y : gY} {a : Int} {idx : Nat} (F : gF Θ l D ad cc own nL d) (hw : Cond.fieldLink own idx "ThirdDay$Court" (TX0 6).2.1 (TX0 6).2.2.1 ∈ wA) (hd : decode cc pc = .ok (.putfield idx, 3)) (kk : gW Θ l D ad nL (pc + 3) lv st (xU x 13 0 0 a) y) : gW Θ l D ad nL pc lv (.int (J a) :: .ref (ad 0 0) :: st) x y := by
  obtain ⟨p, e, R, s, m, args, below, meth, c, Q, A, H0, cells, slots⟩ := Θ
  obtain ⟨hx, hb, hml, ho, hts, hN, hK, hAp, hr1, hr2, hr3, hr4⟩ := F
  intro H locs ls hl hP hS
  refine va_put (D := D.1) (ci := 0) (C := RX0) (T := TX0) (N := 9) hx hb hts lA0 tyX0 tyX0_ok nmX0 ho hK hP (gAp_D hAp) hS (0) (gV_at gI_0) rfl 6 (by decide) (hts _ hw) (fun _ h => h) rfl (ty := .int) (by decide +kernel) rfl rfl (Nat.le_of_ble_eq_true rfl) hd (fun H locs hP _ hS => kk H locs ls hl ?_ hS)
  refine Eq.mp (congrArg (fun q => va_P D.1 vwCl q H) (gV_set gI_0 ?_)) hP
  intro k1 i1
  exact gE_p_0_13 k1 i1
theorem ggN_Court_heals {Θ : gT} {l : Launch} {D : gD} {ad : gA} {cc : ByteArray} {own : String} {nL d pc : Nat} {lv : List (Nat × Value)} {st : List Value} {x : gX} {y : gY} {host : String} {idx : Nat} (F : gF Θ l D ad cc own nL d) (hw : Cond.fieldLinkNest own idx "ThirdDay$Court" (TX0 6).2.1 (TX0 6).2.2.1 host ∈ wN) (hd : decode cc pc = .ok (.getfield idx, 3)) (kk : gW Θ l D ad nL (pc + 3) lv (.int (J (x 13 0 0)) :: st) x y) : gW Θ l D ad nL pc lv (.ref (ad 0 0) :: st) x y := by
  obtain ⟨p, e, R, s, m, args, below, meth, c, Q, A, H0, cells, slots⟩ := Θ
  obtain ⟨hx, hb, hml, ho, hts, hN, hK, hAp, hr1, hr2, hr3, hr4⟩ := F
  intro H locs ls hl hP hS
  exact va_getN (D := D.1) (ci := 0) (C := RX0) (T := TX0) (N := 9) hx hb hts lA0 ho hK hP (0) (gV_at gI_0) rfl 6 (by decide) (va_Nw.use rfl (hN _ hw)) (fun _ h => h) rfl hd (kk H locs ls hl hP hS)
theorem gpN_Court_heals {Θ : gT} {l : Launch} {D : gD} {ad : gA} {cc : ByteArray} {own : String} {nL d pc : Nat} {lv : List (Nat × Value)} {st : List Value} {x : gX} {y : gY} {host : String} {a : Int} {idx : Nat} (F : gF Θ l D ad cc own nL d) (hw : Cond.fieldLinkNest own idx "ThirdDay$Court" (TX0 6).2.1 (TX0 6).2.2.1 host ∈ wN) (hd : decode cc pc = .ok (.putfield idx, 3)) (kk : gW Θ l D ad nL (pc + 3) lv st (xU x 13 0 0 a) y) : gW Θ l D ad nL pc lv (.int (J a) :: .ref (ad 0 0) :: st) x y := by
  obtain ⟨p, e, R, s, m, args, below, meth, c, Q, A, H0, cells, slots⟩ := Θ
  obtain ⟨hx, hb, hml, ho, hts, hN, hK, hAp, hr1, hr2, hr3, hr4⟩ := F
  intro H locs ls hl hP hS
  refine va_putN (D := D.1) (ci := 0) (C := RX0) (T := TX0) (N := 9) hx hb hts lA0 tyX0 tyX0_ok nmX0 ho hK hP (gAp_D hAp) hS (0) (gV_at gI_0) rfl 6 (by decide) (va_Nw.use rfl (hN _ hw)) (fun _ h => h) rfl (ty := .int) (by decide +kernel) rfl rfl (Nat.le_of_ble_eq_true rfl) hd (fun H locs hP _ hS => kk H locs ls hl ?_ hS)
  refine Eq.mp (congrArg (fun q => va_P D.1 vwCl q H) (gV_set gI_0 ?_)) hP
  intro k1 i1
  exact gE_p_0_13 k1 i1
theorem gg_Court_king {Θ : gT} {l : Launch} {D : gD} {ad : gA} {cc : ByteArray} {own : String} {nL d pc : Nat} {lv : List (Nat × Value)} {st : List Value} {x : gX} {y : gY} {idx : Nat} (F : gF Θ l D ad cc own nL d) (hw : Cond.fieldLink own idx "ThirdDay$Court" (TX0 7).2.1 (TX0 7).2.2.1 ∈ wA) (hd : decode cc pc = .ok (.getfield idx, 3)) (kk : gW Θ l D ad nL (pc + 3) lv (.int (J (x 14 0 0)) :: st) x y) : gW Θ l D ad nL pc lv (.ref (ad 0 0) :: st) x y := by
  obtain ⟨p, e, R, s, m, args, below, meth, c, Q, A, H0, cells, slots⟩ := Θ
  obtain ⟨hx, hb, hml, ho, hts, hN, hK, hAp, hr1, hr2, hr3, hr4⟩ := F
  intro H locs ls hl hP hS
  exact va_get (D := D.1) (ci := 0) (C := RX0) (T := TX0) (N := 9) hx hb hts lA0 ho hK hP (0) (gV_at gI_0) rfl 7 (by decide) (hts _ hw) (fun _ h => h) rfl hd (kk H locs ls hl hP hS)
theorem gp_Court_king {Θ : gT} {l : Launch} {D : gD} {ad : gA} {cc : ByteArray} {own : String} {nL d pc : Nat} {lv : List (Nat × Value)} {st : List Value} {x : gX} {y : gY} {a : Int} {idx : Nat} (F : gF Θ l D ad cc own nL d) (hw : Cond.fieldLink own idx "ThirdDay$Court" (TX0 7).2.1 (TX0 7).2.2.1 ∈ wA) (hd : decode cc pc = .ok (.putfield idx, 3)) (kk : gW Θ l D ad nL (pc + 3) lv st (xU x 14 0 0 a) y) : gW Θ l D ad nL pc lv (.int (J a) :: .ref (ad 0 0) :: st) x y := by
  obtain ⟨p, e, R, s, m, args, below, meth, c, Q, A, H0, cells, slots⟩ := Θ
  obtain ⟨hx, hb, hml, ho, hts, hN, hK, hAp, hr1, hr2, hr3, hr4⟩ := F
  intro H locs ls hl hP hS
  refine va_put (D := D.1) (ci := 0) (C := RX0) (T := TX0) (N := 9) hx hb hts lA0 tyX0 tyX0_ok nmX0 ho hK hP (gAp_D hAp) hS (0) (gV_at gI_0) rfl 7 (by decide) (hts _ hw) (fun _ h => h) rfl (ty := .int) (by decide +kernel) rfl rfl (Nat.le_of_ble_eq_true rfl) hd (fun H locs hP _ hS => kk H locs ls hl ?_ hS)
  refine Eq.mp (congrArg (fun q => va_P D.1 vwCl q H) (gV_set gI_0 ?_)) hP
  intro k1 i1
  exact gE_p_0_14 k1 i1
theorem ggN_Court_king {Θ : gT} {l : Launch} {D : gD} {ad : gA} {cc : ByteArray} {own : String} {nL d pc : Nat} {lv : List (Nat × Value)} {st : List Value} {x : gX} {y : gY} {host : String} {idx : Nat} (F : gF Θ l D ad cc own nL d) (hw : Cond.fieldLinkNest own idx "ThirdDay$Court" (TX0 7).2.1 (TX0 7).2.2.1 host ∈ wN) (hd : decode cc pc = .ok (.getfield idx, 3)) (kk : gW Θ l D ad nL (pc + 3) lv (.int (J (x 14 0 0)) :: st) x y) : gW Θ l D ad nL pc lv (.ref (ad 0 0) :: st) x y := by
  obtain ⟨p, e, R, s, m, args, below, meth, c, Q, A, H0, cells, slots⟩ := Θ
  obtain ⟨hx, hb, hml, ho, hts, hN, hK, hAp, hr1, hr2, hr3, hr4⟩ := F
  intro H locs ls hl hP hS
  exact va_getN (D := D.1) (ci := 0) (C := RX0) (T := TX0) (N := 9) hx hb hts lA0 ho hK hP (0) (gV_at gI_0) rfl 7 (by decide) (va_Nw.use rfl (hN _ hw)) (fun _ h => h) rfl hd (kk H locs ls hl hP hS)
theorem gpN_Court_king {Θ : gT} {l : Launch} {D : gD} {ad : gA} {cc : ByteArray} {own : String} {nL d pc : Nat} {lv : List (Nat × Value)} {st : List Value} {x : gX} {y : gY} {host : String} {a : Int} {idx : Nat} (F : gF Θ l D ad cc own nL d) (hw : Cond.fieldLinkNest own idx "ThirdDay$Court" (TX0 7).2.1 (TX0 7).2.2.1 host ∈ wN) (hd : decode cc pc = .ok (.putfield idx, 3)) (kk : gW Θ l D ad nL (pc + 3) lv st (xU x 14 0 0 a) y) : gW Θ l D ad nL pc lv (.int (J a) :: .ref (ad 0 0) :: st) x y := by
  obtain ⟨p, e, R, s, m, args, below, meth, c, Q, A, H0, cells, slots⟩ := Θ
  obtain ⟨hx, hb, hml, ho, hts, hN, hK, hAp, hr1, hr2, hr3, hr4⟩ := F
  intro H locs ls hl hP hS
  refine va_putN (D := D.1) (ci := 0) (C := RX0) (T := TX0) (N := 9) hx hb hts lA0 tyX0 tyX0_ok nmX0 ho hK hP (gAp_D hAp) hS (0) (gV_at gI_0) rfl 7 (by decide) (va_Nw.use rfl (hN _ hw)) (fun _ h => h) rfl (ty := .int) (by decide +kernel) rfl rfl (Nat.le_of_ble_eq_true rfl) hd (fun H locs hP _ hS => kk H locs ls hl ?_ hS)
  refine Eq.mp (congrArg (fun q => va_P D.1 vwCl q H) (gV_set gI_0 ?_)) hP
  intro k1 i1
  exact gE_p_0_14 k1 i1
theorem gg_Court_heat {Θ : gT} {l : Launch} {D : gD} {ad : gA} {cc : ByteArray} {own : String} {nL d pc : Nat} {lv : List (Nat × Value)} {st : List Value} {x : gX} {y : gY} {idx : Nat} (F : gF Θ l D ad cc own nL d) (hw : Cond.fieldLink own idx "ThirdDay$Court" (TX0 8).2.1 (TX0 8).2.2.1 ∈ wA) (hd : decode cc pc = .ok (.getfield idx, 3)) (kk : gW Θ l D ad nL (pc + 3) lv (.int (J (x 15 0 0)) :: st) x y) : gW Θ l D ad nL pc lv (.ref (ad 0 0) :: st) x y := by
  obtain ⟨p, e, R, s, m, args, below, meth, c, Q, A, H0, cells, slots⟩ := Θ
  obtain ⟨hx, hb, hml, ho, hts, hN, hK, hAp, hr1, hr2, hr3, hr4⟩ := F
  intro H locs ls hl hP hS
  exact va_get (D := D.1) (ci := 0) (C := RX0) (T := TX0) (N := 9) hx hb hts lA0 ho hK hP (0) (gV_at gI_0) rfl 8 (by decide) (hts _ hw) (fun _ h => h) rfl hd (kk H locs ls hl hP hS)
theorem gp_Court_heat {Θ : gT} {l : Launch} {D : gD} {ad : gA} {cc : ByteArray} {own : String} {nL d pc : Nat} {lv : List (Nat × Value)} {st : List Value} {x : gX} {y : gY} {a : Int} {idx : Nat} (F : gF Θ l D ad cc own nL d) (hw : Cond.fieldLink own idx "ThirdDay$Court" (TX0 8).2.1 (TX0 8).2.2.1 ∈ wA) (hd : decode cc pc = .ok (.putfield idx, 3)) (kk : gW Θ l D ad nL (pc + 3) lv st (xU x 15 0 0 a) y) : gW Θ l D ad nL pc lv (.int (J a) :: .ref (ad 0 0) :: st) x y := by
  obtain ⟨p, e, R, s, m, args, below, meth, c, Q, A, H0, cells, slots⟩ := Θ
  obtain ⟨hx, hb, hml, ho, hts, hN, hK, hAp, hr1, hr2, hr3, hr4⟩ := F
  intro H locs ls hl hP hS
  refine va_put (D := D.1) (ci := 0) (C := RX0) (T := TX0) (N := 9) hx hb hts lA0 tyX0 tyX0_ok nmX0 ho hK hP (gAp_D hAp) hS (0) (gV_at gI_0) rfl 8 (by decide) (hts _ hw) (fun _ h => h) rfl (ty := .int) (by decide +kernel) rfl rfl (Nat.le_of_ble_eq_true rfl) hd (fun H locs hP _ hS => kk H locs ls hl ?_ hS)
  refine Eq.mp (congrArg (fun q => va_P D.1 vwCl q H) (gV_set gI_0 ?_)) hP
  intro k1 i1
  exact gE_p_0_15 k1 i1
theorem ggN_Court_heat {Θ : gT} {l : Launch} {D : gD} {ad : gA} {cc : ByteArray} {own : String} {nL d pc : Nat} {lv : List (Nat × Value)} {st : List Value} {x : gX} {y : gY} {host : String} {idx : Nat} (F : gF Θ l D ad cc own nL d) (hw : Cond.fieldLinkNest own idx "ThirdDay$Court" (TX0 8).2.1 (TX0 8).2.2.1 host ∈ wN) (hd : decode cc pc = .ok (.getfield idx, 3)) (kk : gW Θ l D ad nL (pc + 3) lv (.int (J (x 15 0 0)) :: st) x y) : gW Θ l D ad nL pc lv (.ref (ad 0 0) :: st) x y := by
  obtain ⟨p, e, R, s, m, args, below, meth, c, Q, A, H0, cells, slots⟩ := Θ
  obtain ⟨hx, hb, hml, ho, hts, hN, hK, hAp, hr1, hr2, hr3, hr4⟩ := F
  intro H locs ls hl hP hS
  exact va_getN (D := D.1) (ci := 0) (C := RX0) (T := TX0) (N := 9) hx hb hts lA0 ho hK hP (0) (gV_at gI_0) rfl 8 (by decide) (va_Nw.use rfl (hN _ hw)) (fun _ h => h) rfl hd (kk H locs ls hl hP hS)
theorem gpN_Court_heat {Θ : gT} {l : Launch} {D : gD} {ad : gA} {cc : ByteArray} {own : String} {nL d pc : Nat} {lv : List (Nat × Value)} {st : List Value} {x : gX} {y : gY} {host : String} {a : Int} {idx : Nat} (F : gF Θ l D ad cc own nL d) (hw : Cond.fieldLinkNest own idx "ThirdDay$Court" (TX0 8).2.1 (TX0 8).2.2.1 host ∈ wN) (hd : decode cc pc = .ok (.putfield idx, 3)) (kk : gW Θ l D ad nL (pc + 3) lv st (xU x 15 0 0 a) y) : gW Θ l D ad nL pc lv (.int (J a) :: .ref (ad 0 0) :: st) x y := by
  obtain ⟨p, e, R, s, m, args, below, meth, c, Q, A, H0, cells, slots⟩ := Θ
  obtain ⟨hx, hb, hml, ho, hts, hN, hK, hAp, hr1, hr2, hr3, hr4⟩ := F
  intro H locs ls hl hP hS
  refine va_putN (D := D.1) (ci := 0) (C := RX0) (T := TX0) (N := 9) hx hb hts lA0 tyX0 tyX0_ok nmX0 ho hK hP (gAp_D hAp) hS (0) (gV_at gI_0) rfl 8 (by decide) (va_Nw.use rfl (hN _ hw)) (fun _ h => h) rfl (ty := .int) (by decide +kernel) rfl rfl (Nat.le_of_ble_eq_true rfl) hd (fun H locs hP _ hS => kk H locs ls hl ?_ hS)
  refine Eq.mp (congrArg (fun q => va_P D.1 vwCl q H) (gV_set gI_0 ?_)) hP
  intro k1 i1
  exact gE_p_0_15 k1 i1
theorem gg_Deeds_whats {Θ : gT} {l : Launch} {D : gD} {ad : gA} {cc : ByteArray} {own : String} {nL d pc : Nat} {lv : List (Nat × Value)} {st : List Value} {x : gX} {y : gY} {i : Int} {idx : Nat} (F : gF Θ l D ad cc own nL d) (hi : 0 ≤ i ∧ i < 4) (hw : Cond.fieldLink own idx "ThirdDay$Deeds" (TX1 0).2.1 (TX1 0).2.2.1 ∈ wA) (hd : decode cc pc = .ok (.getfield idx, 3)) (kk : gW Θ l D ad nL (pc + 3) lv (.ref (ad 21 i) :: st) x y) : gW Θ l D ad nL pc lv (.ref (ad 1 i) :: st) x y := by
  obtain ⟨p, e, R, s, m, args, below, meth, c, Q, A, H0, cells, slots⟩ := Θ
  obtain ⟨hx, hb, hml, ho, hts, hN, hK, hAp, hr1, hr2, hr3, hr4⟩ := F
  intro H locs ls hl hP hS
  exact va_get (D := D.1) (ci := 1) (C := RX1) (T := TX1) (N := 3) hx hb hts lA1 ho hK hP ((1 + i).toNat) (gV_at (gI_1 hi)) rfl 0 (by decide) (hts _ hw) (fun _ h => h) rfl hd (kk H locs ls hl hP hS)
theorem ggN_Deeds_whats {Θ : gT} {l : Launch} {D : gD} {ad : gA} {cc : ByteArray} {own : String} {nL d pc : Nat} {lv : List (Nat × Value)} {st : List Value} {x : gX} {y : gY} {i : Int} {host : String} {idx : Nat} (F : gF Θ l D ad cc own nL d) (hi : 0 ≤ i ∧ i < 4) (hw : Cond.fieldLinkNest own idx "ThirdDay$Deeds" (TX1 0).2.1 (TX1 0).2.2.1 host ∈ wN) (hd : decode cc pc = .ok (.getfield idx, 3)) (kk : gW Θ l D ad nL (pc + 3) lv (.ref (ad 21 i) :: st) x y) : gW Θ l D ad nL pc lv (.ref (ad 1 i) :: st) x y := by
  obtain ⟨p, e, R, s, m, args, below, meth, c, Q, A, H0, cells, slots⟩ := Θ
  obtain ⟨hx, hb, hml, ho, hts, hN, hK, hAp, hr1, hr2, hr3, hr4⟩ := F
  intro H locs ls hl hP hS
  exact va_getN (D := D.1) (ci := 1) (C := RX1) (T := TX1) (N := 3) hx hb hts lA1 ho hK hP ((1 + i).toNat) (gV_at (gI_1 hi)) rfl 0 (by decide) (va_Nw.use rfl (hN _ hw)) (fun _ h => h) rfl hd (kk H locs ls hl hP hS)
theorem gg_Deeds_hows {Θ : gT} {l : Launch} {D : gD} {ad : gA} {cc : ByteArray} {own : String} {nL d pc : Nat} {lv : List (Nat × Value)} {st : List Value} {x : gX} {y : gY} {i : Int} {idx : Nat} (F : gF Θ l D ad cc own nL d) (hi : 0 ≤ i ∧ i < 4) (hw : Cond.fieldLink own idx "ThirdDay$Deeds" (TX1 1).2.1 (TX1 1).2.2.1 ∈ wA) (hd : decode cc pc = .ok (.getfield idx, 3)) (kk : gW Θ l D ad nL (pc + 3) lv (.ref (ad 22 i) :: st) x y) : gW Θ l D ad nL pc lv (.ref (ad 1 i) :: st) x y := by
  obtain ⟨p, e, R, s, m, args, below, meth, c, Q, A, H0, cells, slots⟩ := Θ
  obtain ⟨hx, hb, hml, ho, hts, hN, hK, hAp, hr1, hr2, hr3, hr4⟩ := F
  intro H locs ls hl hP hS
  exact va_get (D := D.1) (ci := 1) (C := RX1) (T := TX1) (N := 3) hx hb hts lA1 ho hK hP ((1 + i).toNat) (gV_at (gI_1 hi)) rfl 1 (by decide) (hts _ hw) (fun _ h => h) rfl hd (kk H locs ls hl hP hS)
theorem ggN_Deeds_hows {Θ : gT} {l : Launch} {D : gD} {ad : gA} {cc : ByteArray} {own : String} {nL d pc : Nat} {lv : List (Nat × Value)} {st : List Value} {x : gX} {y : gY} {i : Int} {host : String} {idx : Nat} (F : gF Θ l D ad cc own nL d) (hi : 0 ≤ i ∧ i < 4) (hw : Cond.fieldLinkNest own idx "ThirdDay$Deeds" (TX1 1).2.1 (TX1 1).2.2.1 host ∈ wN) (hd : decode cc pc = .ok (.getfield idx, 3)) (kk : gW Θ l D ad nL (pc + 3) lv (.ref (ad 22 i) :: st) x y) : gW Θ l D ad nL pc lv (.ref (ad 1 i) :: st) x y := by
  obtain ⟨p, e, R, s, m, args, below, meth, c, Q, A, H0, cells, slots⟩ := Θ
  obtain ⟨hx, hb, hml, ho, hts, hN, hK, hAp, hr1, hr2, hr3, hr4⟩ := F
  intro H locs ls hl hP hS
  exact va_getN (D := D.1) (ci := 1) (C := RX1) (T := TX1) (N := 3) hx hb hts lA1 ho hK hP ((1 + i).toNat) (gV_at (gI_1 hi)) rfl 1 (by decide) (va_Nw.use rfl (hN _ hw)) (fun _ h => h) rfl hd (kk H locs ls hl hP hS)
theorem gg_Deeds_size {Θ : gT} {l : Launch} {D : gD} {ad : gA} {cc : ByteArray} {own : String} {nL d pc : Nat} {lv : List (Nat × Value)} {st : List Value} {x : gX} {y : gY} {i : Int} {idx : Nat} (F : gF Θ l D ad cc own nL d) (hi : 0 ≤ i ∧ i < 4) (hw : Cond.fieldLink own idx "ThirdDay$Deeds" (TX1 2).2.1 (TX1 2).2.2.1 ∈ wA) (hd : decode cc pc = .ok (.getfield idx, 3)) (kk : gW Θ l D ad nL (pc + 3) lv (.int (J (x 16 i 0)) :: st) x y) : gW Θ l D ad nL pc lv (.ref (ad 1 i) :: st) x y := by
  obtain ⟨p, e, R, s, m, args, below, meth, c, Q, A, H0, cells, slots⟩ := Θ
  obtain ⟨hx, hb, hml, ho, hts, hN, hK, hAp, hr1, hr2, hr3, hr4⟩ := F
  intro H locs ls hl hP hS
  exact va_get (D := D.1) (ci := 1) (C := RX1) (T := TX1) (N := 3) hx hb hts lA1 ho hK hP ((1 + i).toNat) (gV_at (gI_1 hi)) rfl 2 (by decide) (hts _ hw) (fun _ h => h) rfl hd (kk H locs ls hl hP hS)
theorem gp_Deeds_size {Θ : gT} {l : Launch} {D : gD} {ad : gA} {cc : ByteArray} {own : String} {nL d pc : Nat} {lv : List (Nat × Value)} {st : List Value} {x : gX} {y : gY} {i : Int} {a : Int} {idx : Nat} (F : gF Θ l D ad cc own nL d) (hi : 0 ≤ i ∧ i < 4) (hw : Cond.fieldLink own idx "ThirdDay$Deeds" (TX1 2).2.1 (TX1 2).2.2.1 ∈ wA) (hd : decode cc pc = .ok (.putfield idx, 3)) (kk : gW Θ l D ad nL (pc + 3) lv st (xU x 16 i 0 a) y) : gW Θ l D ad nL pc lv (.int (J a) :: .ref (ad 1 i) :: st) x y := by
  obtain ⟨p, e, R, s, m, args, below, meth, c, Q, A, H0, cells, slots⟩ := Θ
  obtain ⟨hx, hb, hml, ho, hts, hN, hK, hAp, hr1, hr2, hr3, hr4⟩ := F
  intro H locs ls hl hP hS
  refine va_put (D := D.1) (ci := 1) (C := RX1) (T := TX1) (N := 3) hx hb hts lA1 tyX1 tyX1_ok nmX1 ho hK hP (gAp_D hAp) hS ((1 + i).toNat) (gV_at (gI_1 hi)) rfl 2 (by decide) (hts _ hw) (fun _ h => h) rfl (ty := .int) (by decide +kernel) rfl rfl (Nat.le_of_ble_eq_true rfl) hd (fun H locs hP _ hS => kk H locs ls hl ?_ hS)
  refine Eq.mp (congrArg (fun q => va_P D.1 vwCl q H) (gV_set (gI_1 hi) ?_)) hP
  intro k1 i1
  exact gE_p_1_16 k1 i1
theorem ggN_Deeds_size {Θ : gT} {l : Launch} {D : gD} {ad : gA} {cc : ByteArray} {own : String} {nL d pc : Nat} {lv : List (Nat × Value)} {st : List Value} {x : gX} {y : gY} {i : Int} {host : String} {idx : Nat} (F : gF Θ l D ad cc own nL d) (hi : 0 ≤ i ∧ i < 4) (hw : Cond.fieldLinkNest own idx "ThirdDay$Deeds" (TX1 2).2.1 (TX1 2).2.2.1 host ∈ wN) (hd : decode cc pc = .ok (.getfield idx, 3)) (kk : gW Θ l D ad nL (pc + 3) lv (.int (J (x 16 i 0)) :: st) x y) : gW Θ l D ad nL pc lv (.ref (ad 1 i) :: st) x y := by
  obtain ⟨p, e, R, s, m, args, below, meth, c, Q, A, H0, cells, slots⟩ := Θ
  obtain ⟨hx, hb, hml, ho, hts, hN, hK, hAp, hr1, hr2, hr3, hr4⟩ := F
  intro H locs ls hl hP hS
  exact va_getN (D := D.1) (ci := 1) (C := RX1) (T := TX1) (N := 3) hx hb hts lA1 ho hK hP ((1 + i).toNat) (gV_at (gI_1 hi)) rfl 2 (by decide) (va_Nw.use rfl (hN _ hw)) (fun _ h => h) rfl hd (kk H locs ls hl hP hS)
theorem gpN_Deeds_size {Θ : gT} {l : Launch} {D : gD} {ad : gA} {cc : ByteArray} {own : String} {nL d pc : Nat} {lv : List (Nat × Value)} {st : List Value} {x : gX} {y : gY} {i : Int} {host : String} {a : Int} {idx : Nat} (F : gF Θ l D ad cc own nL d) (hi : 0 ≤ i ∧ i < 4) (hw : Cond.fieldLinkNest own idx "ThirdDay$Deeds" (TX1 2).2.1 (TX1 2).2.2.1 host ∈ wN) (hd : decode cc pc = .ok (.putfield idx, 3)) (kk : gW Θ l D ad nL (pc + 3) lv st (xU x 16 i 0 a) y) : gW Θ l D ad nL pc lv (.int (J a) :: .ref (ad 1 i) :: st) x y := by
  obtain ⟨p, e, R, s, m, args, below, meth, c, Q, A, H0, cells, slots⟩ := Θ
  obtain ⟨hx, hb, hml, ho, hts, hN, hK, hAp, hr1, hr2, hr3, hr4⟩ := F
  intro H locs ls hl hP hS
  refine va_putN (D := D.1) (ci := 1) (C := RX1) (T := TX1) (N := 3) hx hb hts lA1 tyX1 tyX1_ok nmX1 ho hK hP (gAp_D hAp) hS ((1 + i).toNat) (gV_at (gI_1 hi)) rfl 2 (by decide) (va_Nw.use rfl (hN _ hw)) (fun _ h => h) rfl (ty := .int) (by decide +kernel) rfl rfl (Nat.le_of_ble_eq_true rfl) hd (fun H locs hP _ hS => kk H locs ls hl ?_ hS)
  refine Eq.mp (congrArg (fun q => va_P D.1 vwCl q H) (gV_set (gI_1 hi) ?_)) hP
  intro k1 i1
  exact gE_p_1_16 k1 i1
theorem gg_Duel_worth {Θ : gT} {l : Launch} {D : gD} {ad : gA} {cc : ByteArray} {own : String} {nL d pc : Nat} {lv : List (Nat × Value)} {st : List Value} {x : gX} {y : gY} {idx : Nat} (F : gF Θ l D ad cc own nL d) (hw : Cond.fieldLink own idx "ThirdDay$Duel" (TX2 0).2.1 (TX2 0).2.2.1 ∈ wA) (hd : decode cc pc = .ok (.getfield idx, 3)) (kk : gW Θ l D ad nL (pc + 3) lv (.ref (ad 25 (x 38 0 0)) :: st) x y) : gW Θ l D ad nL pc lv (.ref (ad 2 0) :: st) x y := by
  obtain ⟨p, e, R, s, m, args, below, meth, c, Q, A, H0, cells, slots⟩ := Θ
  obtain ⟨hx, hb, hml, ho, hts, hN, hK, hAp, hr1, hr2, hr3, hr4⟩ := F
  intro H locs ls hl hP hS
  exact va_get (D := D.1) (ci := 2) (C := RX2) (T := TX2) (N := 2) hx hb hts lA2 ho hK hP (5) (gV_at gI_2) rfl 0 (by decide) (hts _ hw) (fun _ h => h) rfl hd (kk H locs ls hl hP hS)
theorem gp_Duel_worth {Θ : gT} {l : Launch} {D : gD} {ad : gA} {cc : ByteArray} {own : String} {nL d pc : Nat} {lv : List (Nat × Value)} {st : List Value} {x : gX} {y : gY} {a : Int} {idx : Nat} (F : gF Θ l D ad cc own nL d) (hw : Cond.fieldLink own idx "ThirdDay$Duel" (TX2 0).2.1 (TX2 0).2.2.1 ∈ wA) (hd : decode cc pc = .ok (.putfield idx, 3)) (kk : gW Θ l D ad nL (pc + 3) lv st (xU x 38 0 0 a) y) : gW Θ l D ad nL pc lv (.ref (ad 25 a) :: .ref (ad 2 0) :: st) x y := by
  obtain ⟨p, e, R, s, m, args, below, meth, c, Q, A, H0, cells, slots⟩ := Θ
  obtain ⟨hx, hb, hml, ho, hts, hN, hK, hAp, hr1, hr2, hr3, hr4⟩ := F
  intro H locs ls hl hP hS
  refine va_put (D := D.1) (ci := 2) (C := RX2) (T := TX2) (N := 2) hx hb hts lA2 tyX2 tyX2_ok nmX2 ho hK hP (gAp_D hAp) hS (5) (gV_at gI_2) rfl 0 (by decide) (hts _ hw) (fun _ h => h) rfl (ty := (.array .int)) (by decide +kernel) rfl rfl (Nat.le_of_ble_eq_true rfl) hd (fun H locs hP _ hS => kk H locs ls hl ?_ hS)
  refine Eq.mp (congrArg (fun q => va_P D.1 vwCl q H) (gV_set gI_2 ?_)) hP
  intro k1 i1
  exact gE_p_2_38 k1 i1
theorem ggN_Duel_worth {Θ : gT} {l : Launch} {D : gD} {ad : gA} {cc : ByteArray} {own : String} {nL d pc : Nat} {lv : List (Nat × Value)} {st : List Value} {x : gX} {y : gY} {host : String} {idx : Nat} (F : gF Θ l D ad cc own nL d) (hw : Cond.fieldLinkNest own idx "ThirdDay$Duel" (TX2 0).2.1 (TX2 0).2.2.1 host ∈ wN) (hd : decode cc pc = .ok (.getfield idx, 3)) (kk : gW Θ l D ad nL (pc + 3) lv (.ref (ad 25 (x 38 0 0)) :: st) x y) : gW Θ l D ad nL pc lv (.ref (ad 2 0) :: st) x y := by
  obtain ⟨p, e, R, s, m, args, below, meth, c, Q, A, H0, cells, slots⟩ := Θ
  obtain ⟨hx, hb, hml, ho, hts, hN, hK, hAp, hr1, hr2, hr3, hr4⟩ := F
  intro H locs ls hl hP hS
  exact va_getN (D := D.1) (ci := 2) (C := RX2) (T := TX2) (N := 2) hx hb hts lA2 ho hK hP (5) (gV_at gI_2) rfl 0 (by decide) (va_Nw.use rfl (hN _ hw)) (fun _ h => h) rfl hd (kk H locs ls hl hP hS)
theorem gpN_Duel_worth {Θ : gT} {l : Launch} {D : gD} {ad : gA} {cc : ByteArray} {own : String} {nL d pc : Nat} {lv : List (Nat × Value)} {st : List Value} {x : gX} {y : gY} {host : String} {a : Int} {idx : Nat} (F : gF Θ l D ad cc own nL d) (hw : Cond.fieldLinkNest own idx "ThirdDay$Duel" (TX2 0).2.1 (TX2 0).2.2.1 host ∈ wN) (hd : decode cc pc = .ok (.putfield idx, 3)) (kk : gW Θ l D ad nL (pc + 3) lv st (xU x 38 0 0 a) y) : gW Θ l D ad nL pc lv (.ref (ad 25 a) :: .ref (ad 2 0) :: st) x y := by
  obtain ⟨p, e, R, s, m, args, below, meth, c, Q, A, H0, cells, slots⟩ := Θ
  obtain ⟨hx, hb, hml, ho, hts, hN, hK, hAp, hr1, hr2, hr3, hr4⟩ := F
  intro H locs ls hl hP hS
  refine va_putN (D := D.1) (ci := 2) (C := RX2) (T := TX2) (N := 2) hx hb hts lA2 tyX2 tyX2_ok nmX2 ho hK hP (gAp_D hAp) hS (5) (gV_at gI_2) rfl 0 (by decide) (va_Nw.use rfl (hN _ hw)) (fun _ h => h) rfl (ty := (.array .int)) (by decide +kernel) rfl rfl (Nat.le_of_ble_eq_true rfl) hd (fun H locs hP _ hS => kk H locs ls hl ?_ hS)
  refine Eq.mp (congrArg (fun q => va_P D.1 vwCl q H) (gV_set gI_2 ?_)) hP
  intro k1 i1
  exact gE_p_2_38 k1 i1
theorem gg_Duel_worthAhead {Θ : gT} {l : Launch} {D : gD} {ad : gA} {cc : ByteArray} {own : String} {nL d pc : Nat} {lv : List (Nat × Value)} {st : List Value} {x : gX} {y : gY} {idx : Nat} (F : gF Θ l D ad cc own nL d) (hw : Cond.fieldLink own idx "ThirdDay$Duel" (TX2 1).2.1 (TX2 1).2.2.1 ∈ wA) (hd : decode cc pc = .ok (.getfield idx, 3)) (kk : gW Θ l D ad nL (pc + 3) lv (.ref (ad 25 (x 39 0 0)) :: st) x y) : gW Θ l D ad nL pc lv (.ref (ad 2 0) :: st) x y := by
  obtain ⟨p, e, R, s, m, args, below, meth, c, Q, A, H0, cells, slots⟩ := Θ
  obtain ⟨hx, hb, hml, ho, hts, hN, hK, hAp, hr1, hr2, hr3, hr4⟩ := F
  intro H locs ls hl hP hS
  exact va_get (D := D.1) (ci := 2) (C := RX2) (T := TX2) (N := 2) hx hb hts lA2 ho hK hP (5) (gV_at gI_2) rfl 1 (by decide) (hts _ hw) (fun _ h => h) rfl hd (kk H locs ls hl hP hS)
theorem gp_Duel_worthAhead {Θ : gT} {l : Launch} {D : gD} {ad : gA} {cc : ByteArray} {own : String} {nL d pc : Nat} {lv : List (Nat × Value)} {st : List Value} {x : gX} {y : gY} {a : Int} {idx : Nat} (F : gF Θ l D ad cc own nL d) (hw : Cond.fieldLink own idx "ThirdDay$Duel" (TX2 1).2.1 (TX2 1).2.2.1 ∈ wA) (hd : decode cc pc = .ok (.putfield idx, 3)) (kk : gW Θ l D ad nL (pc + 3) lv st (xU x 39 0 0 a) y) : gW Θ l D ad nL pc lv (.ref (ad 25 a) :: .ref (ad 2 0) :: st) x y := by
  obtain ⟨p, e, R, s, m, args, below, meth, c, Q, A, H0, cells, slots⟩ := Θ
  obtain ⟨hx, hb, hml, ho, hts, hN, hK, hAp, hr1, hr2, hr3, hr4⟩ := F
  intro H locs ls hl hP hS
  refine va_put (D := D.1) (ci := 2) (C := RX2) (T := TX2) (N := 2) hx hb hts lA2 tyX2 tyX2_ok nmX2 ho hK hP (gAp_D hAp) hS (5) (gV_at gI_2) rfl 1 (by decide) (hts _ hw) (fun _ h => h) rfl (ty := (.array .int)) (by decide +kernel) rfl rfl (Nat.le_of_ble_eq_true rfl) hd (fun H locs hP _ hS => kk H locs ls hl ?_ hS)
  refine Eq.mp (congrArg (fun q => va_P D.1 vwCl q H) (gV_set gI_2 ?_)) hP
  intro k1 i1
  exact gE_p_2_39 k1 i1
theorem ggN_Duel_worthAhead {Θ : gT} {l : Launch} {D : gD} {ad : gA} {cc : ByteArray} {own : String} {nL d pc : Nat} {lv : List (Nat × Value)} {st : List Value} {x : gX} {y : gY} {host : String} {idx : Nat} (F : gF Θ l D ad cc own nL d) (hw : Cond.fieldLinkNest own idx "ThirdDay$Duel" (TX2 1).2.1 (TX2 1).2.2.1 host ∈ wN) (hd : decode cc pc = .ok (.getfield idx, 3)) (kk : gW Θ l D ad nL (pc + 3) lv (.ref (ad 25 (x 39 0 0)) :: st) x y) : gW Θ l D ad nL pc lv (.ref (ad 2 0) :: st) x y := by
  obtain ⟨p, e, R, s, m, args, below, meth, c, Q, A, H0, cells, slots⟩ := Θ
  obtain ⟨hx, hb, hml, ho, hts, hN, hK, hAp, hr1, hr2, hr3, hr4⟩ := F
  intro H locs ls hl hP hS
  exact va_getN (D := D.1) (ci := 2) (C := RX2) (T := TX2) (N := 2) hx hb hts lA2 ho hK hP (5) (gV_at gI_2) rfl 1 (by decide) (va_Nw.use rfl (hN _ hw)) (fun _ h => h) rfl hd (kk H locs ls hl hP hS)
theorem gpN_Duel_worthAhead {Θ : gT} {l : Launch} {D : gD} {ad : gA} {cc : ByteArray} {own : String} {nL d pc : Nat} {lv : List (Nat × Value)} {st : List Value} {x : gX} {y : gY} {host : String} {a : Int} {idx : Nat} (F : gF Θ l D ad cc own nL d) (hw : Cond.fieldLinkNest own idx "ThirdDay$Duel" (TX2 1).2.1 (TX2 1).2.2.1 host ∈ wN) (hd : decode cc pc = .ok (.putfield idx, 3)) (kk : gW Θ l D ad nL (pc + 3) lv st (xU x 39 0 0 a) y) : gW Θ l D ad nL pc lv (.ref (ad 25 a) :: .ref (ad 2 0) :: st) x y := by
  obtain ⟨p, e, R, s, m, args, below, meth, c, Q, A, H0, cells, slots⟩ := Θ
  obtain ⟨hx, hb, hml, ho, hts, hN, hK, hAp, hr1, hr2, hr3, hr4⟩ := F
  intro H locs ls hl hP hS
  refine va_putN (D := D.1) (ci := 2) (C := RX2) (T := TX2) (N := 2) hx hb hts lA2 tyX2 tyX2_ok nmX2 ho hK hP (gAp_D hAp) hS (5) (gV_at gI_2) rfl 1 (by decide) (va_Nw.use rfl (hN _ hw)) (fun _ h => h) rfl (ty := (.array .int)) (by decide +kernel) rfl rfl (Nat.le_of_ble_eq_true rfl) hd (fun H locs hP _ hS => kk H locs ls hl ?_ hS)
  refine Eq.mp (congrArg (fun q => va_P D.1 vwCl q H) (gV_set gI_2 ?_)) hP
  intro k1 i1
  exact gE_p_2_39 k1 i1
theorem gg_Man_kind {Θ : gT} {l : Launch} {D : gD} {ad : gA} {cc : ByteArray} {own : String} {nL d pc : Nat} {lv : List (Nat × Value)} {st : List Value} {x : gX} {y : gY} {i : Int} {idx : Nat} (F : gF Θ l D ad cc own nL d) (hi : 0 ≤ i ∧ i < 7) (hw : Cond.fieldLink own idx "ThirdDay$Man" (TX3 0).2.1 (TX3 0).2.2.1 ∈ wA) (hd : decode cc pc = .ok (.getfield idx, 3)) (kk : gW Θ l D ad nL (pc + 3) lv (.int (J (x 1 i 0)) :: st) x y) : gW Θ l D ad nL pc lv (.ref (ad 3 i) :: st) x y := by
  obtain ⟨p, e, R, s, m, args, below, meth, c, Q, A, H0, cells, slots⟩ := Θ
  obtain ⟨hx, hb, hml, ho, hts, hN, hK, hAp, hr1, hr2, hr3, hr4⟩ := F
  intro H locs ls hl hP hS
  exact va_get (D := D.1) (ci := 3) (C := RX3) (T := TX3) (N := 7) hx hb hts lA3 ho hK hP ((6 + i).toNat) (gV_at (gI_3 hi)) rfl 0 (by decide) (hts _ hw) (fun _ h => h) rfl hd (kk H locs ls hl hP hS)
theorem gp_Man_kind {Θ : gT} {l : Launch} {D : gD} {ad : gA} {cc : ByteArray} {own : String} {nL d pc : Nat} {lv : List (Nat × Value)} {st : List Value} {x : gX} {y : gY} {i : Int} {a : Int} {idx : Nat} (F : gF Θ l D ad cc own nL d) (hi : 0 ≤ i ∧ i < 7) (hw : Cond.fieldLink own idx "ThirdDay$Man" (TX3 0).2.1 (TX3 0).2.2.1 ∈ wA) (hd : decode cc pc = .ok (.putfield idx, 3)) (kk : gW Θ l D ad nL (pc + 3) lv st (xU x 1 i 0 a) y) : gW Θ l D ad nL pc lv (.int (J a) :: .ref (ad 3 i) :: st) x y := by
  obtain ⟨p, e, R, s, m, args, below, meth, c, Q, A, H0, cells, slots⟩ := Θ
  obtain ⟨hx, hb, hml, ho, hts, hN, hK, hAp, hr1, hr2, hr3, hr4⟩ := F
  intro H locs ls hl hP hS
  refine va_put (D := D.1) (ci := 3) (C := RX3) (T := TX3) (N := 7) hx hb hts lA3 tyX3 tyX3_ok nmX3 ho hK hP (gAp_D hAp) hS ((6 + i).toNat) (gV_at (gI_3 hi)) rfl 0 (by decide) (hts _ hw) (fun _ h => h) rfl (ty := .int) (by decide +kernel) rfl rfl (Nat.le_of_ble_eq_true rfl) hd (fun H locs hP _ hS => kk H locs ls hl ?_ hS)
  refine Eq.mp (congrArg (fun q => va_P D.1 vwCl q H) (gV_set (gI_3 hi) ?_)) hP
  intro k1 i1
  exact gE_p_3_1 k1 i1
theorem ggN_Man_kind {Θ : gT} {l : Launch} {D : gD} {ad : gA} {cc : ByteArray} {own : String} {nL d pc : Nat} {lv : List (Nat × Value)} {st : List Value} {x : gX} {y : gY} {i : Int} {host : String} {idx : Nat} (F : gF Θ l D ad cc own nL d) (hi : 0 ≤ i ∧ i < 7) (hw : Cond.fieldLinkNest own idx "ThirdDay$Man" (TX3 0).2.1 (TX3 0).2.2.1 host ∈ wN) (hd : decode cc pc = .ok (.getfield idx, 3)) (kk : gW Θ l D ad nL (pc + 3) lv (.int (J (x 1 i 0)) :: st) x y) : gW Θ l D ad nL pc lv (.ref (ad 3 i) :: st) x y := by
  obtain ⟨p, e, R, s, m, args, below, meth, c, Q, A, H0, cells, slots⟩ := Θ
  obtain ⟨hx, hb, hml, ho, hts, hN, hK, hAp, hr1, hr2, hr3, hr4⟩ := F
  intro H locs ls hl hP hS
  exact va_getN (D := D.1) (ci := 3) (C := RX3) (T := TX3) (N := 7) hx hb hts lA3 ho hK hP ((6 + i).toNat) (gV_at (gI_3 hi)) rfl 0 (by decide) (va_Nw.use rfl (hN _ hw)) (fun _ h => h) rfl hd (kk H locs ls hl hP hS)
theorem gpN_Man_kind {Θ : gT} {l : Launch} {D : gD} {ad : gA} {cc : ByteArray} {own : String} {nL d pc : Nat} {lv : List (Nat × Value)} {st : List Value} {x : gX} {y : gY} {i : Int} {host : String} {a : Int} {idx : Nat} (F : gF Θ l D ad cc own nL d) (hi : 0 ≤ i ∧ i < 7) (hw : Cond.fieldLinkNest own idx "ThirdDay$Man" (TX3 0).2.1 (TX3 0).2.2.1 host ∈ wN) (hd : decode cc pc = .ok (.putfield idx, 3)) (kk : gW Θ l D ad nL (pc + 3) lv st (xU x 1 i 0 a) y) : gW Θ l D ad nL pc lv (.int (J a) :: .ref (ad 3 i) :: st) x y := by
  obtain ⟨p, e, R, s, m, args, below, meth, c, Q, A, H0, cells, slots⟩ := Θ
  obtain ⟨hx, hb, hml, ho, hts, hN, hK, hAp, hr1, hr2, hr3, hr4⟩ := F
  intro H locs ls hl hP hS
  refine va_putN (D := D.1) (ci := 3) (C := RX3) (T := TX3) (N := 7) hx hb hts lA3 tyX3 tyX3_ok nmX3 ho hK hP (gAp_D hAp) hS ((6 + i).toNat) (gV_at (gI_3 hi)) rfl 0 (by decide) (va_Nw.use rfl (hN _ hw)) (fun _ h => h) rfl (ty := .int) (by decide +kernel) rfl rfl (Nat.le_of_ble_eq_true rfl) hd (fun H locs hP _ hS => kk H locs ls hl ?_ hS)
  refine Eq.mp (congrArg (fun q => va_P D.1 vwCl q H) (gV_set (gI_3 hi) ?_)) hP
  intro k1 i1
  exact gE_p_3_1 k1 i1
theorem gg_Man_guilt {Θ : gT} {l : Launch} {D : gD} {ad : gA} {cc : ByteArray} {own : String} {nL d pc : Nat} {lv : List (Nat × Value)} {st : List Value} {x : gX} {y : gY} {i : Int} {idx : Nat} (F : gF Θ l D ad cc own nL d) (hi : 0 ≤ i ∧ i < 7) (hw : Cond.fieldLink own idx "ThirdDay$Man" (TX3 1).2.1 (TX3 1).2.2.1 ∈ wA) (hd : decode cc pc = .ok (.getfield idx, 3)) (kk : gW Θ l D ad nL (pc + 3) lv (.int (J (x 2 i 0)) :: st) x y) : gW Θ l D ad nL pc lv (.ref (ad 3 i) :: st) x y := by
  obtain ⟨p, e, R, s, m, args, below, meth, c, Q, A, H0, cells, slots⟩ := Θ
  obtain ⟨hx, hb, hml, ho, hts, hN, hK, hAp, hr1, hr2, hr3, hr4⟩ := F
  intro H locs ls hl hP hS
  exact va_get (D := D.1) (ci := 3) (C := RX3) (T := TX3) (N := 7) hx hb hts lA3 ho hK hP ((6 + i).toNat) (gV_at (gI_3 hi)) rfl 1 (by decide) (hts _ hw) (fun _ h => h) rfl hd (kk H locs ls hl hP hS)
theorem gp_Man_guilt {Θ : gT} {l : Launch} {D : gD} {ad : gA} {cc : ByteArray} {own : String} {nL d pc : Nat} {lv : List (Nat × Value)} {st : List Value} {x : gX} {y : gY} {i : Int} {a : Int} {idx : Nat} (F : gF Θ l D ad cc own nL d) (hi : 0 ≤ i ∧ i < 7) (hw : Cond.fieldLink own idx "ThirdDay$Man" (TX3 1).2.1 (TX3 1).2.2.1 ∈ wA) (hd : decode cc pc = .ok (.putfield idx, 3)) (kk : gW Θ l D ad nL (pc + 3) lv st (xU x 2 i 0 a) y) : gW Θ l D ad nL pc lv (.int (J a) :: .ref (ad 3 i) :: st) x y := by
  obtain ⟨p, e, R, s, m, args, below, meth, c, Q, A, H0, cells, slots⟩ := Θ
  obtain ⟨hx, hb, hml, ho, hts, hN, hK, hAp, hr1, hr2, hr3, hr4⟩ := F
  intro H locs ls hl hP hS
  refine va_put (D := D.1) (ci := 3) (C := RX3) (T := TX3) (N := 7) hx hb hts lA3 tyX3 tyX3_ok nmX3 ho hK hP (gAp_D hAp) hS ((6 + i).toNat) (gV_at (gI_3 hi)) rfl 1 (by decide) (hts _ hw) (fun _ h => h) rfl (ty := .int) (by decide +kernel) rfl rfl (Nat.le_of_ble_eq_true rfl) hd (fun H locs hP _ hS => kk H locs ls hl ?_ hS)
  refine Eq.mp (congrArg (fun q => va_P D.1 vwCl q H) (gV_set (gI_3 hi) ?_)) hP
  intro k1 i1
  exact gE_p_3_2 k1 i1
theorem ggN_Man_guilt {Θ : gT} {l : Launch} {D : gD} {ad : gA} {cc : ByteArray} {own : String} {nL d pc : Nat} {lv : List (Nat × Value)} {st : List Value} {x : gX} {y : gY} {i : Int} {host : String} {idx : Nat} (F : gF Θ l D ad cc own nL d) (hi : 0 ≤ i ∧ i < 7) (hw : Cond.fieldLinkNest own idx "ThirdDay$Man" (TX3 1).2.1 (TX3 1).2.2.1 host ∈ wN) (hd : decode cc pc = .ok (.getfield idx, 3)) (kk : gW Θ l D ad nL (pc + 3) lv (.int (J (x 2 i 0)) :: st) x y) : gW Θ l D ad nL pc lv (.ref (ad 3 i) :: st) x y := by
  obtain ⟨p, e, R, s, m, args, below, meth, c, Q, A, H0, cells, slots⟩ := Θ
  obtain ⟨hx, hb, hml, ho, hts, hN, hK, hAp, hr1, hr2, hr3, hr4⟩ := F
  intro H locs ls hl hP hS
  exact va_getN (D := D.1) (ci := 3) (C := RX3) (T := TX3) (N := 7) hx hb hts lA3 ho hK hP ((6 + i).toNat) (gV_at (gI_3 hi)) rfl 1 (by decide) (va_Nw.use rfl (hN _ hw)) (fun _ h => h) rfl hd (kk H locs ls hl hP hS)
theorem gpN_Man_guilt {Θ : gT} {l : Launch} {D : gD} {ad : gA} {cc : ByteArray} {own : String} {nL d pc : Nat} {lv : List (Nat × Value)} {st : List Value} {x : gX} {y : gY} {i : Int} {host : String} {a : Int} {idx : Nat} (F : gF Θ l D ad cc own nL d) (hi : 0 ≤ i ∧ i < 7) (hw : Cond.fieldLinkNest own idx "ThirdDay$Man" (TX3 1).2.1 (TX3 1).2.2.1 host ∈ wN) (hd : decode cc pc = .ok (.putfield idx, 3)) (kk : gW Θ l D ad nL (pc + 3) lv st (xU x 2 i 0 a) y) : gW Θ l D ad nL pc lv (.int (J a) :: .ref (ad 3 i) :: st) x y := by
  obtain ⟨p, e, R, s, m, args, below, meth, c, Q, A, H0, cells, slots⟩ := Θ
  obtain ⟨hx, hb, hml, ho, hts, hN, hK, hAp, hr1, hr2, hr3, hr4⟩ := F
  intro H locs ls hl hP hS
  refine va_putN (D := D.1) (ci := 3) (C := RX3) (T := TX3) (N := 7) hx hb hts lA3 tyX3 tyX3_ok nmX3 ho hK hP (gAp_D hAp) hS ((6 + i).toNat) (gV_at (gI_3 hi)) rfl 1 (by decide) (va_Nw.use rfl (hN _ hw)) (fun _ h => h) rfl (ty := .int) (by decide +kernel) rfl rfl (Nat.le_of_ble_eq_true rfl) hd (fun H locs hP _ hS => kk H locs ls hl ?_ hS)
  refine Eq.mp (congrArg (fun q => va_P D.1 vwCl q H) (gV_set (gI_3 hi) ?_)) hP
  intro k1 i1
  exact gE_p_3_2 k1 i1
theorem gg_Man_belief {Θ : gT} {l : Launch} {D : gD} {ad : gA} {cc : ByteArray} {own : String} {nL d pc : Nat} {lv : List (Nat × Value)} {st : List Value} {x : gX} {y : gY} {i : Int} {idx : Nat} (F : gF Θ l D ad cc own nL d) (hi : 0 ≤ i ∧ i < 7) (hw : Cond.fieldLink own idx "ThirdDay$Man" (TX3 2).2.1 (TX3 2).2.2.1 ∈ wA) (hd : decode cc pc = .ok (.getfield idx, 3)) (kk : gW Θ l D ad nL (pc + 3) lv (.int (J (x 3 i 0)) :: st) x y) : gW Θ l D ad nL pc lv (.ref (ad 3 i) :: st) x y := by
  obtain ⟨p, e, R, s, m, args, below, meth, c, Q, A, H0, cells, slots⟩ := Θ
  obtain ⟨hx, hb, hml, ho, hts, hN, hK, hAp, hr1, hr2, hr3, hr4⟩ := F
  intro H locs ls hl hP hS
  exact va_get (D := D.1) (ci := 3) (C := RX3) (T := TX3) (N := 7) hx hb hts lA3 ho hK hP ((6 + i).toNat) (gV_at (gI_3 hi)) rfl 2 (by decide) (hts _ hw) (fun _ h => h) rfl hd (kk H locs ls hl hP hS)
theorem gp_Man_belief {Θ : gT} {l : Launch} {D : gD} {ad : gA} {cc : ByteArray} {own : String} {nL d pc : Nat} {lv : List (Nat × Value)} {st : List Value} {x : gX} {y : gY} {i : Int} {a : Int} {idx : Nat} (F : gF Θ l D ad cc own nL d) (hi : 0 ≤ i ∧ i < 7) (hw : Cond.fieldLink own idx "ThirdDay$Man" (TX3 2).2.1 (TX3 2).2.2.1 ∈ wA) (hd : decode cc pc = .ok (.putfield idx, 3)) (kk : gW Θ l D ad nL (pc + 3) lv st (xU x 3 i 0 a) y) : gW Θ l D ad nL pc lv (.int (J a) :: .ref (ad 3 i) :: st) x y := by
  obtain ⟨p, e, R, s, m, args, below, meth, c, Q, A, H0, cells, slots⟩ := Θ
  obtain ⟨hx, hb, hml, ho, hts, hN, hK, hAp, hr1, hr2, hr3, hr4⟩ := F
  intro H locs ls hl hP hS
  refine va_put (D := D.1) (ci := 3) (C := RX3) (T := TX3) (N := 7) hx hb hts lA3 tyX3 tyX3_ok nmX3 ho hK hP (gAp_D hAp) hS ((6 + i).toNat) (gV_at (gI_3 hi)) rfl 2 (by decide) (hts _ hw) (fun _ h => h) rfl (ty := .int) (by decide +kernel) rfl rfl (Nat.le_of_ble_eq_true rfl) hd (fun H locs hP _ hS => kk H locs ls hl ?_ hS)
  refine Eq.mp (congrArg (fun q => va_P D.1 vwCl q H) (gV_set (gI_3 hi) ?_)) hP
  intro k1 i1
  exact gE_p_3_3 k1 i1
theorem ggN_Man_belief {Θ : gT} {l : Launch} {D : gD} {ad : gA} {cc : ByteArray} {own : String} {nL d pc : Nat} {lv : List (Nat × Value)} {st : List Value} {x : gX} {y : gY} {i : Int} {host : String} {idx : Nat} (F : gF Θ l D ad cc own nL d) (hi : 0 ≤ i ∧ i < 7) (hw : Cond.fieldLinkNest own idx "ThirdDay$Man" (TX3 2).2.1 (TX3 2).2.2.1 host ∈ wN) (hd : decode cc pc = .ok (.getfield idx, 3)) (kk : gW Θ l D ad nL (pc + 3) lv (.int (J (x 3 i 0)) :: st) x y) : gW Θ l D ad nL pc lv (.ref (ad 3 i) :: st) x y := by
  obtain ⟨p, e, R, s, m, args, below, meth, c, Q, A, H0, cells, slots⟩ := Θ
  obtain ⟨hx, hb, hml, ho, hts, hN, hK, hAp, hr1, hr2, hr3, hr4⟩ := F
  intro H locs ls hl hP hS
  exact va_getN (D := D.1) (ci := 3) (C := RX3) (T := TX3) (N := 7) hx hb hts lA3 ho hK hP ((6 + i).toNat) (gV_at (gI_3 hi)) rfl 2 (by decide) (va_Nw.use rfl (hN _ hw)) (fun _ h => h) rfl hd (kk H locs ls hl hP hS)
theorem gpN_Man_belief {Θ : gT} {l : Launch} {D : gD} {ad : gA} {cc : ByteArray} {own : String} {nL d pc : Nat} {lv : List (Nat × Value)} {st : List Value} {x : gX} {y : gY} {i : Int} {host : String} {a : Int} {idx : Nat} (F : gF Θ l D ad cc own nL d) (hi : 0 ≤ i ∧ i < 7) (hw : Cond.fieldLinkNest own idx "ThirdDay$Man" (TX3 2).2.1 (TX3 2).2.2.1 host ∈ wN) (hd : decode cc pc = .ok (.putfield idx, 3)) (kk : gW Θ l D ad nL (pc + 3) lv st (xU x 3 i 0 a) y) : gW Θ l D ad nL pc lv (.int (J a) :: .ref (ad 3 i) :: st) x y := by
  obtain ⟨p, e, R, s, m, args, below, meth, c, Q, A, H0, cells, slots⟩ := Θ
  obtain ⟨hx, hb, hml, ho, hts, hN, hK, hAp, hr1, hr2, hr3, hr4⟩ := F
  intro H locs ls hl hP hS
  refine va_putN (D := D.1) (ci := 3) (C := RX3) (T := TX3) (N := 7) hx hb hts lA3 tyX3 tyX3_ok nmX3 ho hK hP (gAp_D hAp) hS ((6 + i).toNat) (gV_at (gI_3 hi)) rfl 2 (by decide) (va_Nw.use rfl (hN _ hw)) (fun _ h => h) rfl (ty := .int) (by decide +kernel) rfl rfl (Nat.le_of_ble_eq_true rfl) hd (fun H locs hP _ hS => kk H locs ls hl ?_ hS)
  refine Eq.mp (congrArg (fun q => va_P D.1 vwCl q H) (gV_set (gI_3 hi) ?_)) hP
  intro k1 i1
  exact gE_p_3_3 k1 i1
theorem gg_Man_hand {Θ : gT} {l : Launch} {D : gD} {ad : gA} {cc : ByteArray} {own : String} {nL d pc : Nat} {lv : List (Nat × Value)} {st : List Value} {x : gX} {y : gY} {i : Int} {idx : Nat} (F : gF Θ l D ad cc own nL d) (hi : 0 ≤ i ∧ i < 7) (hw : Cond.fieldLink own idx "ThirdDay$Man" (TX3 3).2.1 (TX3 3).2.2.1 ∈ wA) (hd : decode cc pc = .ok (.getfield idx, 3)) (kk : gW Θ l D ad nL (pc + 3) lv (.int (J (x 4 i 0)) :: st) x y) : gW Θ l D ad nL pc lv (.ref (ad 3 i) :: st) x y := by
  obtain ⟨p, e, R, s, m, args, below, meth, c, Q, A, H0, cells, slots⟩ := Θ
  obtain ⟨hx, hb, hml, ho, hts, hN, hK, hAp, hr1, hr2, hr3, hr4⟩ := F
  intro H locs ls hl hP hS
  exact va_get (D := D.1) (ci := 3) (C := RX3) (T := TX3) (N := 7) hx hb hts lA3 ho hK hP ((6 + i).toNat) (gV_at (gI_3 hi)) rfl 3 (by decide) (hts _ hw) (fun _ h => h) rfl hd (kk H locs ls hl hP hS)
theorem gp_Man_hand {Θ : gT} {l : Launch} {D : gD} {ad : gA} {cc : ByteArray} {own : String} {nL d pc : Nat} {lv : List (Nat × Value)} {st : List Value} {x : gX} {y : gY} {i : Int} {a : Int} {idx : Nat} (F : gF Θ l D ad cc own nL d) (hi : 0 ≤ i ∧ i < 7) (hw : Cond.fieldLink own idx "ThirdDay$Man" (TX3 3).2.1 (TX3 3).2.2.1 ∈ wA) (hd : decode cc pc = .ok (.putfield idx, 3)) (kk : gW Θ l D ad nL (pc + 3) lv st (xU x 4 i 0 a) y) : gW Θ l D ad nL pc lv (.int (J a) :: .ref (ad 3 i) :: st) x y := by
  obtain ⟨p, e, R, s, m, args, below, meth, c, Q, A, H0, cells, slots⟩ := Θ
  obtain ⟨hx, hb, hml, ho, hts, hN, hK, hAp, hr1, hr2, hr3, hr4⟩ := F
  intro H locs ls hl hP hS
  refine va_put (D := D.1) (ci := 3) (C := RX3) (T := TX3) (N := 7) hx hb hts lA3 tyX3 tyX3_ok nmX3 ho hK hP (gAp_D hAp) hS ((6 + i).toNat) (gV_at (gI_3 hi)) rfl 3 (by decide) (hts _ hw) (fun _ h => h) rfl (ty := .int) (by decide +kernel) rfl rfl (Nat.le_of_ble_eq_true rfl) hd (fun H locs hP _ hS => kk H locs ls hl ?_ hS)
  refine Eq.mp (congrArg (fun q => va_P D.1 vwCl q H) (gV_set (gI_3 hi) ?_)) hP
  intro k1 i1
  exact gE_p_3_4 k1 i1
theorem ggN_Man_hand {Θ : gT} {l : Launch} {D : gD} {ad : gA} {cc : ByteArray} {own : String} {nL d pc : Nat} {lv : List (Nat × Value)} {st : List Value} {x : gX} {y : gY} {i : Int} {host : String} {idx : Nat} (F : gF Θ l D ad cc own nL d) (hi : 0 ≤ i ∧ i < 7) (hw : Cond.fieldLinkNest own idx "ThirdDay$Man" (TX3 3).2.1 (TX3 3).2.2.1 host ∈ wN) (hd : decode cc pc = .ok (.getfield idx, 3)) (kk : gW Θ l D ad nL (pc + 3) lv (.int (J (x 4 i 0)) :: st) x y) : gW Θ l D ad nL pc lv (.ref (ad 3 i) :: st) x y := by
  obtain ⟨p, e, R, s, m, args, below, meth, c, Q, A, H0, cells, slots⟩ := Θ
  obtain ⟨hx, hb, hml, ho, hts, hN, hK, hAp, hr1, hr2, hr3, hr4⟩ := F
  intro H locs ls hl hP hS
  exact va_getN (D := D.1) (ci := 3) (C := RX3) (T := TX3) (N := 7) hx hb hts lA3 ho hK hP ((6 + i).toNat) (gV_at (gI_3 hi)) rfl 3 (by decide) (va_Nw.use rfl (hN _ hw)) (fun _ h => h) rfl hd (kk H locs ls hl hP hS)
theorem gpN_Man_hand {Θ : gT} {l : Launch} {D : gD} {ad : gA} {cc : ByteArray} {own : String} {nL d pc : Nat} {lv : List (Nat × Value)} {st : List Value} {x : gX} {y : gY} {i : Int} {host : String} {a : Int} {idx : Nat} (F : gF Θ l D ad cc own nL d) (hi : 0 ≤ i ∧ i < 7) (hw : Cond.fieldLinkNest own idx "ThirdDay$Man" (TX3 3).2.1 (TX3 3).2.2.1 host ∈ wN) (hd : decode cc pc = .ok (.putfield idx, 3)) (kk : gW Θ l D ad nL (pc + 3) lv st (xU x 4 i 0 a) y) : gW Θ l D ad nL pc lv (.int (J a) :: .ref (ad 3 i) :: st) x y := by
  obtain ⟨p, e, R, s, m, args, below, meth, c, Q, A, H0, cells, slots⟩ := Θ
  obtain ⟨hx, hb, hml, ho, hts, hN, hK, hAp, hr1, hr2, hr3, hr4⟩ := F
  intro H locs ls hl hP hS
  refine va_putN (D := D.1) (ci := 3) (C := RX3) (T := TX3) (N := 7) hx hb hts lA3 tyX3 tyX3_ok nmX3 ho hK hP (gAp_D hAp) hS ((6 + i).toNat) (gV_at (gI_3 hi)) rfl 3 (by decide) (va_Nw.use rfl (hN _ hw)) (fun _ h => h) rfl (ty := .int) (by decide +kernel) rfl rfl (Nat.le_of_ble_eq_true rfl) hd (fun H locs hP _ hS => kk H locs ls hl ?_ hS)
  refine Eq.mp (congrArg (fun q => va_P D.1 vwCl q H) (gV_set (gI_3 hi) ?_)) hP
  intro k1 i1
  exact gE_p_3_4 k1 i1
theorem gg_Man_salve {Θ : gT} {l : Launch} {D : gD} {ad : gA} {cc : ByteArray} {own : String} {nL d pc : Nat} {lv : List (Nat × Value)} {st : List Value} {x : gX} {y : gY} {i : Int} {idx : Nat} (F : gF Θ l D ad cc own nL d) (hi : 0 ≤ i ∧ i < 7) (hw : Cond.fieldLink own idx "ThirdDay$Man" (TX3 4).2.1 (TX3 4).2.2.1 ∈ wA) (hd : decode cc pc = .ok (.getfield idx, 3)) (kk : gW Θ l D ad nL (pc + 3) lv (.int (J (x 5 i 0)) :: st) x y) : gW Θ l D ad nL pc lv (.ref (ad 3 i) :: st) x y := by
  obtain ⟨p, e, R, s, m, args, below, meth, c, Q, A, H0, cells, slots⟩ := Θ
  obtain ⟨hx, hb, hml, ho, hts, hN, hK, hAp, hr1, hr2, hr3, hr4⟩ := F
  intro H locs ls hl hP hS
  exact va_get (D := D.1) (ci := 3) (C := RX3) (T := TX3) (N := 7) hx hb hts lA3 ho hK hP ((6 + i).toNat) (gV_at (gI_3 hi)) rfl 4 (by decide) (hts _ hw) (fun _ h => h) rfl hd (kk H locs ls hl hP hS)
theorem gp_Man_salve {Θ : gT} {l : Launch} {D : gD} {ad : gA} {cc : ByteArray} {own : String} {nL d pc : Nat} {lv : List (Nat × Value)} {st : List Value} {x : gX} {y : gY} {i : Int} {a : Int} {idx : Nat} (F : gF Θ l D ad cc own nL d) (hi : 0 ≤ i ∧ i < 7) (hw : Cond.fieldLink own idx "ThirdDay$Man" (TX3 4).2.1 (TX3 4).2.2.1 ∈ wA) (hd : decode cc pc = .ok (.putfield idx, 3)) (kk : gW Θ l D ad nL (pc + 3) lv st (xU x 5 i 0 a) y) : gW Θ l D ad nL pc lv (.int (J a) :: .ref (ad 3 i) :: st) x y := by
  obtain ⟨p, e, R, s, m, args, below, meth, c, Q, A, H0, cells, slots⟩ := Θ
  obtain ⟨hx, hb, hml, ho, hts, hN, hK, hAp, hr1, hr2, hr3, hr4⟩ := F
  intro H locs ls hl hP hS
  refine va_put (D := D.1) (ci := 3) (C := RX3) (T := TX3) (N := 7) hx hb hts lA3 tyX3 tyX3_ok nmX3 ho hK hP (gAp_D hAp) hS ((6 + i).toNat) (gV_at (gI_3 hi)) rfl 4 (by decide) (hts _ hw) (fun _ h => h) rfl (ty := .int) (by decide +kernel) rfl rfl (Nat.le_of_ble_eq_true rfl) hd (fun H locs hP _ hS => kk H locs ls hl ?_ hS)
  refine Eq.mp (congrArg (fun q => va_P D.1 vwCl q H) (gV_set (gI_3 hi) ?_)) hP
  intro k1 i1
  exact gE_p_3_5 k1 i1
theorem ggN_Man_salve {Θ : gT} {l : Launch} {D : gD} {ad : gA} {cc : ByteArray} {own : String} {nL d pc : Nat} {lv : List (Nat × Value)} {st : List Value} {x : gX} {y : gY} {i : Int} {host : String} {idx : Nat} (F : gF Θ l D ad cc own nL d) (hi : 0 ≤ i ∧ i < 7) (hw : Cond.fieldLinkNest own idx "ThirdDay$Man" (TX3 4).2.1 (TX3 4).2.2.1 host ∈ wN) (hd : decode cc pc = .ok (.getfield idx, 3)) (kk : gW Θ l D ad nL (pc + 3) lv (.int (J (x 5 i 0)) :: st) x y) : gW Θ l D ad nL pc lv (.ref (ad 3 i) :: st) x y := by
  obtain ⟨p, e, R, s, m, args, below, meth, c, Q, A, H0, cells, slots⟩ := Θ
  obtain ⟨hx, hb, hml, ho, hts, hN, hK, hAp, hr1, hr2, hr3, hr4⟩ := F
  intro H locs ls hl hP hS
  exact va_getN (D := D.1) (ci := 3) (C := RX3) (T := TX3) (N := 7) hx hb hts lA3 ho hK hP ((6 + i).toNat) (gV_at (gI_3 hi)) rfl 4 (by decide) (va_Nw.use rfl (hN _ hw)) (fun _ h => h) rfl hd (kk H locs ls hl hP hS)
theorem gpN_Man_salve {Θ : gT} {l : Launch} {D : gD} {ad : gA} {cc : ByteArray} {own : String} {nL d pc : Nat} {lv : List (Nat × Value)} {st : List Value} {x : gX} {y : gY} {i : Int} {host : String} {a : Int} {idx : Nat} (F : gF Θ l D ad cc own nL d) (hi : 0 ≤ i ∧ i < 7) (hw : Cond.fieldLinkNest own idx "ThirdDay$Man" (TX3 4).2.1 (TX3 4).2.2.1 host ∈ wN) (hd : decode cc pc = .ok (.putfield idx, 3)) (kk : gW Θ l D ad nL (pc + 3) lv st (xU x 5 i 0 a) y) : gW Θ l D ad nL pc lv (.int (J a) :: .ref (ad 3 i) :: st) x y := by
  obtain ⟨p, e, R, s, m, args, below, meth, c, Q, A, H0, cells, slots⟩ := Θ
  obtain ⟨hx, hb, hml, ho, hts, hN, hK, hAp, hr1, hr2, hr3, hr4⟩ := F
  intro H locs ls hl hP hS
  refine va_putN (D := D.1) (ci := 3) (C := RX3) (T := TX3) (N := 7) hx hb hts lA3 tyX3 tyX3_ok nmX3 ho hK hP (gAp_D hAp) hS ((6 + i).toNat) (gV_at (gI_3 hi)) rfl 4 (by decide) (va_Nw.use rfl (hN _ hw)) (fun _ h => h) rfl (ty := .int) (by decide +kernel) rfl rfl (Nat.le_of_ble_eq_true rfl) hd (fun H locs hP _ hS => kk H locs ls hl ?_ hS)
  refine Eq.mp (congrArg (fun q => va_P D.1 vwCl q H) (gV_set (gI_3 hi) ?_)) hP
  intro k1 i1
  exact gE_p_3_5 k1 i1
theorem gg_Man_verdict {Θ : gT} {l : Launch} {D : gD} {ad : gA} {cc : ByteArray} {own : String} {nL d pc : Nat} {lv : List (Nat × Value)} {st : List Value} {x : gX} {y : gY} {i : Int} {idx : Nat} (F : gF Θ l D ad cc own nL d) (hi : 0 ≤ i ∧ i < 7) (hw : Cond.fieldLink own idx "ThirdDay$Man" (TX3 5).2.1 (TX3 5).2.2.1 ∈ wA) (hd : decode cc pc = .ok (.getfield idx, 3)) (kk : gW Θ l D ad nL (pc + 3) lv (.int (J (x 6 i 0)) :: st) x y) : gW Θ l D ad nL pc lv (.ref (ad 3 i) :: st) x y := by
  obtain ⟨p, e, R, s, m, args, below, meth, c, Q, A, H0, cells, slots⟩ := Θ
  obtain ⟨hx, hb, hml, ho, hts, hN, hK, hAp, hr1, hr2, hr3, hr4⟩ := F
  intro H locs ls hl hP hS
  exact va_get (D := D.1) (ci := 3) (C := RX3) (T := TX3) (N := 7) hx hb hts lA3 ho hK hP ((6 + i).toNat) (gV_at (gI_3 hi)) rfl 5 (by decide) (hts _ hw) (fun _ h => h) rfl hd (kk H locs ls hl hP hS)
theorem gp_Man_verdict {Θ : gT} {l : Launch} {D : gD} {ad : gA} {cc : ByteArray} {own : String} {nL d pc : Nat} {lv : List (Nat × Value)} {st : List Value} {x : gX} {y : gY} {i : Int} {a : Int} {idx : Nat} (F : gF Θ l D ad cc own nL d) (hi : 0 ≤ i ∧ i < 7) (hw : Cond.fieldLink own idx "ThirdDay$Man" (TX3 5).2.1 (TX3 5).2.2.1 ∈ wA) (hd : decode cc pc = .ok (.putfield idx, 3)) (kk : gW Θ l D ad nL (pc + 3) lv st (xU x 6 i 0 a) y) : gW Θ l D ad nL pc lv (.int (J a) :: .ref (ad 3 i) :: st) x y := by
  obtain ⟨p, e, R, s, m, args, below, meth, c, Q, A, H0, cells, slots⟩ := Θ
  obtain ⟨hx, hb, hml, ho, hts, hN, hK, hAp, hr1, hr2, hr3, hr4⟩ := F
  intro H locs ls hl hP hS
  refine va_put (D := D.1) (ci := 3) (C := RX3) (T := TX3) (N := 7) hx hb hts lA3 tyX3 tyX3_ok nmX3 ho hK hP (gAp_D hAp) hS ((6 + i).toNat) (gV_at (gI_3 hi)) rfl 5 (by decide) (hts _ hw) (fun _ h => h) rfl (ty := .int) (by decide +kernel) rfl rfl (Nat.le_of_ble_eq_true rfl) hd (fun H locs hP _ hS => kk H locs ls hl ?_ hS)
  refine Eq.mp (congrArg (fun q => va_P D.1 vwCl q H) (gV_set (gI_3 hi) ?_)) hP
  intro k1 i1
  exact gE_p_3_6 k1 i1
theorem ggN_Man_verdict {Θ : gT} {l : Launch} {D : gD} {ad : gA} {cc : ByteArray} {own : String} {nL d pc : Nat} {lv : List (Nat × Value)} {st : List Value} {x : gX} {y : gY} {i : Int} {host : String} {idx : Nat} (F : gF Θ l D ad cc own nL d) (hi : 0 ≤ i ∧ i < 7) (hw : Cond.fieldLinkNest own idx "ThirdDay$Man" (TX3 5).2.1 (TX3 5).2.2.1 host ∈ wN) (hd : decode cc pc = .ok (.getfield idx, 3)) (kk : gW Θ l D ad nL (pc + 3) lv (.int (J (x 6 i 0)) :: st) x y) : gW Θ l D ad nL pc lv (.ref (ad 3 i) :: st) x y := by
  obtain ⟨p, e, R, s, m, args, below, meth, c, Q, A, H0, cells, slots⟩ := Θ
  obtain ⟨hx, hb, hml, ho, hts, hN, hK, hAp, hr1, hr2, hr3, hr4⟩ := F
  intro H locs ls hl hP hS
  exact va_getN (D := D.1) (ci := 3) (C := RX3) (T := TX3) (N := 7) hx hb hts lA3 ho hK hP ((6 + i).toNat) (gV_at (gI_3 hi)) rfl 5 (by decide) (va_Nw.use rfl (hN _ hw)) (fun _ h => h) rfl hd (kk H locs ls hl hP hS)
theorem gpN_Man_verdict {Θ : gT} {l : Launch} {D : gD} {ad : gA} {cc : ByteArray} {own : String} {nL d pc : Nat} {lv : List (Nat × Value)} {st : List Value} {x : gX} {y : gY} {i : Int} {host : String} {a : Int} {idx : Nat} (F : gF Θ l D ad cc own nL d) (hi : 0 ≤ i ∧ i < 7) (hw : Cond.fieldLinkNest own idx "ThirdDay$Man" (TX3 5).2.1 (TX3 5).2.2.1 host ∈ wN) (hd : decode cc pc = .ok (.putfield idx, 3)) (kk : gW Θ l D ad nL (pc + 3) lv st (xU x 6 i 0 a) y) : gW Θ l D ad nL pc lv (.int (J a) :: .ref (ad 3 i) :: st) x y := by
  obtain ⟨p, e, R, s, m, args, below, meth, c, Q, A, H0, cells, slots⟩ := Θ
  obtain ⟨hx, hb, hml, ho, hts, hN, hK, hAp, hr1, hr2, hr3, hr4⟩ := F
  intro H locs ls hl hP hS
  refine va_putN (D := D.1) (ci := 3) (C := RX3) (T := TX3) (N := 7) hx hb hts lA3 tyX3 tyX3_ok nmX3 ho hK hP (gAp_D hAp) hS ((6 + i).toNat) (gV_at (gI_3 hi)) rfl 5 (by decide) (va_Nw.use rfl (hN _ hw)) (fun _ h => h) rfl (ty := .int) (by decide +kernel) rfl rfl (Nat.le_of_ble_eq_true rfl) hd (fun H locs hP _ hS => kk H locs ls hl ?_ hS)
  refine Eq.mp (congrArg (fun q => va_P D.1 vwCl q H) (gV_set (gI_3 hi) ?_)) hP
  intro k1 i1
  exact gE_p_3_6 k1 i1
theorem gg_Man_wronged {Θ : gT} {l : Launch} {D : gD} {ad : gA} {cc : ByteArray} {own : String} {nL d pc : Nat} {lv : List (Nat × Value)} {st : List Value} {x : gX} {y : gY} {i : Int} {idx : Nat} (F : gF Θ l D ad cc own nL d) (hi : 0 ≤ i ∧ i < 7) (hw : Cond.fieldLink own idx "ThirdDay$Man" (TX3 6).2.1 (TX3 6).2.2.1 ∈ wA) (hd : decode cc pc = .ok (.getfield idx, 3)) (kk : gW Θ l D ad nL (pc + 3) lv (.int (J (x 7 i 0)) :: st) x y) : gW Θ l D ad nL pc lv (.ref (ad 3 i) :: st) x y := by
  obtain ⟨p, e, R, s, m, args, below, meth, c, Q, A, H0, cells, slots⟩ := Θ
  obtain ⟨hx, hb, hml, ho, hts, hN, hK, hAp, hr1, hr2, hr3, hr4⟩ := F
  intro H locs ls hl hP hS
  exact va_get (D := D.1) (ci := 3) (C := RX3) (T := TX3) (N := 7) hx hb hts lA3 ho hK hP ((6 + i).toNat) (gV_at (gI_3 hi)) rfl 6 (by decide) (hts _ hw) (fun _ h => h) rfl hd (kk H locs ls hl hP hS)
theorem gp_Man_wronged {Θ : gT} {l : Launch} {D : gD} {ad : gA} {cc : ByteArray} {own : String} {nL d pc : Nat} {lv : List (Nat × Value)} {st : List Value} {x : gX} {y : gY} {i : Int} {a : Int} {idx : Nat} (F : gF Θ l D ad cc own nL d) (hi : 0 ≤ i ∧ i < 7) (hz : a = 0 ∨ a = 1) (hw : Cond.fieldLink own idx "ThirdDay$Man" (TX3 6).2.1 (TX3 6).2.2.1 ∈ wA) (hd : decode cc pc = .ok (.putfield idx, 3)) (kk : gW Θ l D ad nL (pc + 3) lv st (xU x 7 i 0 a) y) : gW Θ l D ad nL pc lv (.int (J a) :: .ref (ad 3 i) :: st) x y := by
  obtain ⟨p, e, R, s, m, args, below, meth, c, Q, A, H0, cells, slots⟩ := Θ
  obtain ⟨hx, hb, hml, ho, hts, hN, hK, hAp, hr1, hr2, hr3, hr4⟩ := F
  intro H locs ls hl hP hS
  refine va_put (D := D.1) (ci := 3) (C := RX3) (T := TX3) (N := 7) hx hb hts lA3 tyX3 tyX3_ok nmX3 ho hK hP (gAp_D hAp) hS ((6 + i).toNat) (gV_at (gI_3 hi)) rfl 6 (by decide) (hts _ hw) (fun _ h => h) rfl (ty := .boolean) (by decide +kernel) (by rcases hz with rfl | rfl <;> rfl) (by rcases hz with rfl | rfl <;> decide +kernel) (Nat.le_of_ble_eq_true rfl) hd (fun H locs hP _ hS => kk H locs ls hl ?_ hS)
  refine Eq.mp (congrArg (fun q => va_P D.1 vwCl q H) (gV_set (gI_3 hi) ?_)) hP
  intro k1 i1
  exact gE_p_3_7 k1 i1
theorem ggN_Man_wronged {Θ : gT} {l : Launch} {D : gD} {ad : gA} {cc : ByteArray} {own : String} {nL d pc : Nat} {lv : List (Nat × Value)} {st : List Value} {x : gX} {y : gY} {i : Int} {host : String} {idx : Nat} (F : gF Θ l D ad cc own nL d) (hi : 0 ≤ i ∧ i < 7) (hw : Cond.fieldLinkNest own idx "ThirdDay$Man" (TX3 6).2.1 (TX3 6).2.2.1 host ∈ wN) (hd : decode cc pc = .ok (.getfield idx, 3)) (kk : gW Θ l D ad nL (pc + 3) lv (.int (J (x 7 i 0)) :: st) x y) : gW Θ l D ad nL pc lv (.ref (ad 3 i) :: st) x y := by
  obtain ⟨p, e, R, s, m, args, below, meth, c, Q, A, H0, cells, slots⟩ := Θ
  obtain ⟨hx, hb, hml, ho, hts, hN, hK, hAp, hr1, hr2, hr3, hr4⟩ := F
  intro H locs ls hl hP hS
  exact va_getN (D := D.1) (ci := 3) (C := RX3) (T := TX3) (N := 7) hx hb hts lA3 ho hK hP ((6 + i).toNat) (gV_at (gI_3 hi)) rfl 6 (by decide) (va_Nw.use rfl (hN _ hw)) (fun _ h => h) rfl hd (kk H locs ls hl hP hS)
theorem gpN_Man_wronged {Θ : gT} {l : Launch} {D : gD} {ad : gA} {cc : ByteArray} {own : String} {nL d pc : Nat} {lv : List (Nat × Value)} {st : List Value} {x : gX} {y : gY} {i : Int} {host : String} {a : Int} {idx : Nat} (F : gF Θ l D ad cc own nL d) (hi : 0 ≤ i ∧ i < 7) (hz : a = 0 ∨ a = 1) (hw : Cond.fieldLinkNest own idx "ThirdDay$Man" (TX3 6).2.1 (TX3 6).2.2.1 host ∈ wN) (hd : decode cc pc = .ok (.putfield idx, 3)) (kk : gW Θ l D ad nL (pc + 3) lv st (xU x 7 i 0 a) y) : gW Θ l D ad nL pc lv (.int (J a) :: .ref (ad 3 i) :: st) x y := by
  obtain ⟨p, e, R, s, m, args, below, meth, c, Q, A, H0, cells, slots⟩ := Θ
  obtain ⟨hx, hb, hml, ho, hts, hN, hK, hAp, hr1, hr2, hr3, hr4⟩ := F
  intro H locs ls hl hP hS
  refine va_putN (D := D.1) (ci := 3) (C := RX3) (T := TX3) (N := 7) hx hb hts lA3 tyX3 tyX3_ok nmX3 ho hK hP (gAp_D hAp) hS ((6 + i).toNat) (gV_at (gI_3 hi)) rfl 6 (by decide) (va_Nw.use rfl (hN _ hw)) (fun _ h => h) rfl (ty := .boolean) (by decide +kernel) (by rcases hz with rfl | rfl <;> rfl) (by rcases hz with rfl | rfl <;> decide +kernel) (Nat.le_of_ble_eq_true rfl) hd (fun H locs hP _ hS => kk H locs ls hl ?_ hS)
  refine Eq.mp (congrArg (fun q => va_P D.1 vwCl q H) (gV_set (gI_3 hi) ?_)) hP
  intro k1 i1
  exact gE_p_3_7 k1 i1
theorem gg_Orders_path {Θ : gT} {l : Launch} {D : gD} {ad : gA} {cc : ByteArray} {own : String} {nL d pc : Nat} {lv : List (Nat × Value)} {st : List Value} {x : gX} {y : gY} {idx : Nat} (F : gF Θ l D ad cc own nL d) (hw : Cond.fieldLink own idx "ThirdDay$Orders" (TX4 0).2.1 (TX4 0).2.2.1 ∈ wA) (hd : decode cc pc = .ok (.getfield idx, 3)) (kk : gW Θ l D ad nL (pc + 3) lv (.ref (ad 24 0) :: st) x y) : gW Θ l D ad nL pc lv (.ref (ad 4 0) :: st) x y := by
  obtain ⟨p, e, R, s, m, args, below, meth, c, Q, A, H0, cells, slots⟩ := Θ
  obtain ⟨hx, hb, hml, ho, hts, hN, hK, hAp, hr1, hr2, hr3, hr4⟩ := F
  intro H locs ls hl hP hS
  exact va_get (D := D.1) (ci := 4) (C := RX4) (T := TX4) (N := 2) hx hb hts lA4 ho hK hP (13) (gV_at gI_4) rfl 0 (by decide) (hts _ hw) (fun _ h => h) rfl hd (kk H locs ls hl hP hS)
theorem ggN_Orders_path {Θ : gT} {l : Launch} {D : gD} {ad : gA} {cc : ByteArray} {own : String} {nL d pc : Nat} {lv : List (Nat × Value)} {st : List Value} {x : gX} {y : gY} {host : String} {idx : Nat} (F : gF Θ l D ad cc own nL d) (hw : Cond.fieldLinkNest own idx "ThirdDay$Orders" (TX4 0).2.1 (TX4 0).2.2.1 host ∈ wN) (hd : decode cc pc = .ok (.getfield idx, 3)) (kk : gW Θ l D ad nL (pc + 3) lv (.ref (ad 24 0) :: st) x y) : gW Θ l D ad nL pc lv (.ref (ad 4 0) :: st) x y := by
  obtain ⟨p, e, R, s, m, args, below, meth, c, Q, A, H0, cells, slots⟩ := Θ
  obtain ⟨hx, hb, hml, ho, hts, hN, hK, hAp, hr1, hr2, hr3, hr4⟩ := F
  intro H locs ls hl hP hS
  exact va_getN (D := D.1) (ci := 4) (C := RX4) (T := TX4) (N := 2) hx hb hts lA4 ho hK hP (13) (gV_at gI_4) rfl 0 (by decide) (va_Nw.use rfl (hN _ hw)) (fun _ h => h) rfl hd (kk H locs ls hl hP hS)
theorem gg_Orders_fewest {Θ : gT} {l : Launch} {D : gD} {ad : gA} {cc : ByteArray} {own : String} {nL d pc : Nat} {lv : List (Nat × Value)} {st : List Value} {x : gX} {y : gY} {idx : Nat} (F : gF Θ l D ad cc own nL d) (hw : Cond.fieldLink own idx "ThirdDay$Orders" (TX4 1).2.1 (TX4 1).2.2.1 ∈ wA) (hd : decode cc pc = .ok (.getfield idx, 3)) (kk : gW Θ l D ad nL (pc + 3) lv (.int (J (x 34 0 0)) :: st) x y) : gW Θ l D ad nL pc lv (.ref (ad 4 0) :: st) x y := by
  obtain ⟨p, e, R, s, m, args, below, meth, c, Q, A, H0, cells, slots⟩ := Θ
  obtain ⟨hx, hb, hml, ho, hts, hN, hK, hAp, hr1, hr2, hr3, hr4⟩ := F
  intro H locs ls hl hP hS
  exact va_get (D := D.1) (ci := 4) (C := RX4) (T := TX4) (N := 2) hx hb hts lA4 ho hK hP (13) (gV_at gI_4) rfl 1 (by decide) (hts _ hw) (fun _ h => h) rfl hd (kk H locs ls hl hP hS)
theorem gp_Orders_fewest {Θ : gT} {l : Launch} {D : gD} {ad : gA} {cc : ByteArray} {own : String} {nL d pc : Nat} {lv : List (Nat × Value)} {st : List Value} {x : gX} {y : gY} {a : Int} {idx : Nat} (F : gF Θ l D ad cc own nL d) (hw : Cond.fieldLink own idx "ThirdDay$Orders" (TX4 1).2.1 (TX4 1).2.2.1 ∈ wA) (hd : decode cc pc = .ok (.putfield idx, 3)) (kk : gW Θ l D ad nL (pc + 3) lv st (xU x 34 0 0 a) y) : gW Θ l D ad nL pc lv (.int (J a) :: .ref (ad 4 0) :: st) x y := by
  obtain ⟨p, e, R, s, m, args, below, meth, c, Q, A, H0, cells, slots⟩ := Θ
  obtain ⟨hx, hb, hml, ho, hts, hN, hK, hAp, hr1, hr2, hr3, hr4⟩ := F
  intro H locs ls hl hP hS
  refine va_put (D := D.1) (ci := 4) (C := RX4) (T := TX4) (N := 2) hx hb hts lA4 tyX4 tyX4_ok nmX4 ho hK hP (gAp_D hAp) hS (13) (gV_at gI_4) rfl 1 (by decide) (hts _ hw) (fun _ h => h) rfl (ty := .int) (by decide +kernel) rfl rfl (Nat.le_of_ble_eq_true rfl) hd (fun H locs hP _ hS => kk H locs ls hl ?_ hS)
  refine Eq.mp (congrArg (fun q => va_P D.1 vwCl q H) (gV_set gI_4 ?_)) hP
  intro k1 i1
  exact gE_p_4_34 k1 i1
theorem ggN_Orders_fewest {Θ : gT} {l : Launch} {D : gD} {ad : gA} {cc : ByteArray} {own : String} {nL d pc : Nat} {lv : List (Nat × Value)} {st : List Value} {x : gX} {y : gY} {host : String} {idx : Nat} (F : gF Θ l D ad cc own nL d) (hw : Cond.fieldLinkNest own idx "ThirdDay$Orders" (TX4 1).2.1 (TX4 1).2.2.1 host ∈ wN) (hd : decode cc pc = .ok (.getfield idx, 3)) (kk : gW Θ l D ad nL (pc + 3) lv (.int (J (x 34 0 0)) :: st) x y) : gW Θ l D ad nL pc lv (.ref (ad 4 0) :: st) x y := by
  obtain ⟨p, e, R, s, m, args, below, meth, c, Q, A, H0, cells, slots⟩ := Θ
  obtain ⟨hx, hb, hml, ho, hts, hN, hK, hAp, hr1, hr2, hr3, hr4⟩ := F
  intro H locs ls hl hP hS
  exact va_getN (D := D.1) (ci := 4) (C := RX4) (T := TX4) (N := 2) hx hb hts lA4 ho hK hP (13) (gV_at gI_4) rfl 1 (by decide) (va_Nw.use rfl (hN _ hw)) (fun _ h => h) rfl hd (kk H locs ls hl hP hS)
theorem gpN_Orders_fewest {Θ : gT} {l : Launch} {D : gD} {ad : gA} {cc : ByteArray} {own : String} {nL d pc : Nat} {lv : List (Nat × Value)} {st : List Value} {x : gX} {y : gY} {host : String} {a : Int} {idx : Nat} (F : gF Θ l D ad cc own nL d) (hw : Cond.fieldLinkNest own idx "ThirdDay$Orders" (TX4 1).2.1 (TX4 1).2.2.1 host ∈ wN) (hd : decode cc pc = .ok (.putfield idx, 3)) (kk : gW Θ l D ad nL (pc + 3) lv st (xU x 34 0 0 a) y) : gW Θ l D ad nL pc lv (.int (J a) :: .ref (ad 4 0) :: st) x y := by
  obtain ⟨p, e, R, s, m, args, below, meth, c, Q, A, H0, cells, slots⟩ := Θ
  obtain ⟨hx, hb, hml, ho, hts, hN, hK, hAp, hr1, hr2, hr3, hr4⟩ := F
  intro H locs ls hl hP hS
  refine va_putN (D := D.1) (ci := 4) (C := RX4) (T := TX4) (N := 2) hx hb hts lA4 tyX4 tyX4_ok nmX4 ho hK hP (gAp_D hAp) hS (13) (gV_at gI_4) rfl 1 (by decide) (va_Nw.use rfl (hN _ hw)) (fun _ h => h) rfl (ty := .int) (by decide +kernel) rfl rfl (Nat.le_of_ble_eq_true rfl) hd (fun H locs hP _ hS => kk H locs ls hl ?_ hS)
  refine Eq.mp (congrArg (fun q => va_P D.1 vwCl q H) (gV_set gI_4 ?_)) hP
  intro k1 i1
  exact gE_p_4_34 k1 i1
theorem gg_Reader_numbers {Θ : gT} {l : Launch} {D : gD} {ad : gA} {cc : ByteArray} {own : String} {nL d pc : Nat} {lv : List (Nat × Value)} {st : List Value} {x : gX} {y : gY} {idx : Nat} (F : gF Θ l D ad cc own nL d) (hw : Cond.fieldLink own idx "ThirdDay$Reader" (TX5 0).2.1 (TX5 0).2.2.1 ∈ wA) (hd : decode cc pc = .ok (.getfield idx, 3)) (kk : gW Θ l D ad nL (pc + 3) lv (.ref (ad 23 0) :: st) x y) : gW Θ l D ad nL pc lv (.ref (ad 5 0) :: st) x y := by
  obtain ⟨p, e, R, s, m, args, below, meth, c, Q, A, H0, cells, slots⟩ := Θ
  obtain ⟨hx, hb, hml, ho, hts, hN, hK, hAp, hr1, hr2, hr3, hr4⟩ := F
  intro H locs ls hl hP hS
  exact va_get (D := D.1) (ci := 5) (C := RX5) (T := TX5) (N := 4) hx hb hts lA5 ho hK hP (14) (gV_at gI_5) rfl 0 (by decide) (hts _ hw) (fun _ h => h) rfl hd (kk H locs ls hl hP hS)
theorem ggN_Reader_numbers {Θ : gT} {l : Launch} {D : gD} {ad : gA} {cc : ByteArray} {own : String} {nL d pc : Nat} {lv : List (Nat × Value)} {st : List Value} {x : gX} {y : gY} {host : String} {idx : Nat} (F : gF Θ l D ad cc own nL d) (hw : Cond.fieldLinkNest own idx "ThirdDay$Reader" (TX5 0).2.1 (TX5 0).2.2.1 host ∈ wN) (hd : decode cc pc = .ok (.getfield idx, 3)) (kk : gW Θ l D ad nL (pc + 3) lv (.ref (ad 23 0) :: st) x y) : gW Θ l D ad nL pc lv (.ref (ad 5 0) :: st) x y := by
  obtain ⟨p, e, R, s, m, args, below, meth, c, Q, A, H0, cells, slots⟩ := Θ
  obtain ⟨hx, hb, hml, ho, hts, hN, hK, hAp, hr1, hr2, hr3, hr4⟩ := F
  intro H locs ls hl hP hS
  exact va_getN (D := D.1) (ci := 5) (C := RX5) (T := TX5) (N := 4) hx hb hts lA5 ho hK hP (14) (gV_at gI_5) rfl 0 (by decide) (va_Nw.use rfl (hN _ hw)) (fun _ h => h) rfl hd (kk H locs ls hl hP hS)
theorem gg_Reader_taken {Θ : gT} {l : Launch} {D : gD} {ad : gA} {cc : ByteArray} {own : String} {nL d pc : Nat} {lv : List (Nat × Value)} {st : List Value} {x : gX} {y : gY} {idx : Nat} (F : gF Θ l D ad cc own nL d) (hw : Cond.fieldLink own idx "ThirdDay$Reader" (TX5 1).2.1 (TX5 1).2.2.1 ∈ wA) (hd : decode cc pc = .ok (.getfield idx, 3)) (kk : gW Θ l D ad nL (pc + 3) lv (.int (J (x 35 0 0)) :: st) x y) : gW Θ l D ad nL pc lv (.ref (ad 5 0) :: st) x y := by
  obtain ⟨p, e, R, s, m, args, below, meth, c, Q, A, H0, cells, slots⟩ := Θ
  obtain ⟨hx, hb, hml, ho, hts, hN, hK, hAp, hr1, hr2, hr3, hr4⟩ := F
  intro H locs ls hl hP hS
  exact va_get (D := D.1) (ci := 5) (C := RX5) (T := TX5) (N := 4) hx hb hts lA5 ho hK hP (14) (gV_at gI_5) rfl 1 (by decide) (hts _ hw) (fun _ h => h) rfl hd (kk H locs ls hl hP hS)
theorem gp_Reader_taken {Θ : gT} {l : Launch} {D : gD} {ad : gA} {cc : ByteArray} {own : String} {nL d pc : Nat} {lv : List (Nat × Value)} {st : List Value} {x : gX} {y : gY} {a : Int} {idx : Nat} (F : gF Θ l D ad cc own nL d) (hw : Cond.fieldLink own idx "ThirdDay$Reader" (TX5 1).2.1 (TX5 1).2.2.1 ∈ wA) (hd : decode cc pc = .ok (.putfield idx, 3)) (kk : gW Θ l D ad nL (pc + 3) lv st (xU x 35 0 0 a) y) : gW Θ l D ad nL pc lv (.int (J a) :: .ref (ad 5 0) :: st) x y := by
  obtain ⟨p, e, R, s, m, args, below, meth, c, Q, A, H0, cells, slots⟩ := Θ
  obtain ⟨hx, hb, hml, ho, hts, hN, hK, hAp, hr1, hr2, hr3, hr4⟩ := F
  intro H locs ls hl hP hS
  refine va_put (D := D.1) (ci := 5) (C := RX5) (T := TX5) (N := 4) hx hb hts lA5 tyX5 tyX5_ok nmX5 ho hK hP (gAp_D hAp) hS (14) (gV_at gI_5) rfl 1 (by decide) (hts _ hw) (fun _ h => h) rfl (ty := .int) (by decide +kernel) rfl rfl (Nat.le_of_ble_eq_true rfl) hd (fun H locs hP _ hS => kk H locs ls hl ?_ hS)
  refine Eq.mp (congrArg (fun q => va_P D.1 vwCl q H) (gV_set gI_5 ?_)) hP
  intro k1 i1
  exact gE_p_5_35 k1 i1
theorem ggN_Reader_taken {Θ : gT} {l : Launch} {D : gD} {ad : gA} {cc : ByteArray} {own : String} {nL d pc : Nat} {lv : List (Nat × Value)} {st : List Value} {x : gX} {y : gY} {host : String} {idx : Nat} (F : gF Θ l D ad cc own nL d) (hw : Cond.fieldLinkNest own idx "ThirdDay$Reader" (TX5 1).2.1 (TX5 1).2.2.1 host ∈ wN) (hd : decode cc pc = .ok (.getfield idx, 3)) (kk : gW Θ l D ad nL (pc + 3) lv (.int (J (x 35 0 0)) :: st) x y) : gW Θ l D ad nL pc lv (.ref (ad 5 0) :: st) x y := by
  obtain ⟨p, e, R, s, m, args, below, meth, c, Q, A, H0, cells, slots⟩ := Θ
  obtain ⟨hx, hb, hml, ho, hts, hN, hK, hAp, hr1, hr2, hr3, hr4⟩ := F
  intro H locs ls hl hP hS
  exact va_getN (D := D.1) (ci := 5) (C := RX5) (T := TX5) (N := 4) hx hb hts lA5 ho hK hP (14) (gV_at gI_5) rfl 1 (by decide) (va_Nw.use rfl (hN _ hw)) (fun _ h => h) rfl hd (kk H locs ls hl hP hS)
theorem gpN_Reader_taken {Θ : gT} {l : Launch} {D : gD} {ad : gA} {cc : ByteArray} {own : String} {nL d pc : Nat} {lv : List (Nat × Value)} {st : List Value} {x : gX} {y : gY} {host : String} {a : Int} {idx : Nat} (F : gF Θ l D ad cc own nL d) (hw : Cond.fieldLinkNest own idx "ThirdDay$Reader" (TX5 1).2.1 (TX5 1).2.2.1 host ∈ wN) (hd : decode cc pc = .ok (.putfield idx, 3)) (kk : gW Θ l D ad nL (pc + 3) lv st (xU x 35 0 0 a) y) : gW Θ l D ad nL pc lv (.int (J a) :: .ref (ad 5 0) :: st) x y := by
  obtain ⟨p, e, R, s, m, args, below, meth, c, Q, A, H0, cells, slots⟩ := Θ
  obtain ⟨hx, hb, hml, ho, hts, hN, hK, hAp, hr1, hr2, hr3, hr4⟩ := F
  intro H locs ls hl hP hS
  refine va_putN (D := D.1) (ci := 5) (C := RX5) (T := TX5) (N := 4) hx hb hts lA5 tyX5 tyX5_ok nmX5 ho hK hP (gAp_D hAp) hS (14) (gV_at gI_5) rfl 1 (by decide) (va_Nw.use rfl (hN _ hw)) (fun _ h => h) rfl (ty := .int) (by decide +kernel) rfl rfl (Nat.le_of_ble_eq_true rfl) hd (fun H locs hP _ hS => kk H locs ls hl ?_ hS)
  refine Eq.mp (congrArg (fun q => va_P D.1 vwCl q H) (gV_set gI_5 ?_)) hP
  intro k1 i1
  exact gE_p_5_35 k1 i1
theorem gg_Reader_men {Θ : gT} {l : Launch} {D : gD} {ad : gA} {cc : ByteArray} {own : String} {nL d pc : Nat} {lv : List (Nat × Value)} {st : List Value} {x : gX} {y : gY} {idx : Nat} (F : gF Θ l D ad cc own nL d) (hw : Cond.fieldLink own idx "ThirdDay$Reader" (TX5 2).2.1 (TX5 2).2.2.1 ∈ wA) (hd : decode cc pc = .ok (.getfield idx, 3)) (kk : gW Θ l D ad nL (pc + 3) lv (.int (J (x 36 0 0)) :: st) x y) : gW Θ l D ad nL pc lv (.ref (ad 5 0) :: st) x y := by
  obtain ⟨p, e, R, s, m, args, below, meth, c, Q, A, H0, cells, slots⟩ := Θ
  obtain ⟨hx, hb, hml, ho, hts, hN, hK, hAp, hr1, hr2, hr3, hr4⟩ := F
  intro H locs ls hl hP hS
  exact va_get (D := D.1) (ci := 5) (C := RX5) (T := TX5) (N := 4) hx hb hts lA5 ho hK hP (14) (gV_at gI_5) rfl 2 (by decide) (hts _ hw) (fun _ h => h) rfl hd (kk H locs ls hl hP hS)
theorem gp_Reader_men {Θ : gT} {l : Launch} {D : gD} {ad : gA} {cc : ByteArray} {own : String} {nL d pc : Nat} {lv : List (Nat × Value)} {st : List Value} {x : gX} {y : gY} {a : Int} {idx : Nat} (F : gF Θ l D ad cc own nL d) (hw : Cond.fieldLink own idx "ThirdDay$Reader" (TX5 2).2.1 (TX5 2).2.2.1 ∈ wA) (hd : decode cc pc = .ok (.putfield idx, 3)) (kk : gW Θ l D ad nL (pc + 3) lv st (xU x 36 0 0 a) y) : gW Θ l D ad nL pc lv (.int (J a) :: .ref (ad 5 0) :: st) x y := by
  obtain ⟨p, e, R, s, m, args, below, meth, c, Q, A, H0, cells, slots⟩ := Θ
  obtain ⟨hx, hb, hml, ho, hts, hN, hK, hAp, hr1, hr2, hr3, hr4⟩ := F
  intro H locs ls hl hP hS
  refine va_put (D := D.1) (ci := 5) (C := RX5) (T := TX5) (N := 4) hx hb hts lA5 tyX5 tyX5_ok nmX5 ho hK hP (gAp_D hAp) hS (14) (gV_at gI_5) rfl 2 (by decide) (hts _ hw) (fun _ h => h) rfl (ty := .int) (by decide +kernel) rfl rfl (Nat.le_of_ble_eq_true rfl) hd (fun H locs hP _ hS => kk H locs ls hl ?_ hS)
  refine Eq.mp (congrArg (fun q => va_P D.1 vwCl q H) (gV_set gI_5 ?_)) hP
  intro k1 i1
  exact gE_p_5_36 k1 i1
theorem ggN_Reader_men {Θ : gT} {l : Launch} {D : gD} {ad : gA} {cc : ByteArray} {own : String} {nL d pc : Nat} {lv : List (Nat × Value)} {st : List Value} {x : gX} {y : gY} {host : String} {idx : Nat} (F : gF Θ l D ad cc own nL d) (hw : Cond.fieldLinkNest own idx "ThirdDay$Reader" (TX5 2).2.1 (TX5 2).2.2.1 host ∈ wN) (hd : decode cc pc = .ok (.getfield idx, 3)) (kk : gW Θ l D ad nL (pc + 3) lv (.int (J (x 36 0 0)) :: st) x y) : gW Θ l D ad nL pc lv (.ref (ad 5 0) :: st) x y := by
  obtain ⟨p, e, R, s, m, args, below, meth, c, Q, A, H0, cells, slots⟩ := Θ
  obtain ⟨hx, hb, hml, ho, hts, hN, hK, hAp, hr1, hr2, hr3, hr4⟩ := F
  intro H locs ls hl hP hS
  exact va_getN (D := D.1) (ci := 5) (C := RX5) (T := TX5) (N := 4) hx hb hts lA5 ho hK hP (14) (gV_at gI_5) rfl 2 (by decide) (va_Nw.use rfl (hN _ hw)) (fun _ h => h) rfl hd (kk H locs ls hl hP hS)
theorem gpN_Reader_men {Θ : gT} {l : Launch} {D : gD} {ad : gA} {cc : ByteArray} {own : String} {nL d pc : Nat} {lv : List (Nat × Value)} {st : List Value} {x : gX} {y : gY} {host : String} {a : Int} {idx : Nat} (F : gF Θ l D ad cc own nL d) (hw : Cond.fieldLinkNest own idx "ThirdDay$Reader" (TX5 2).2.1 (TX5 2).2.2.1 host ∈ wN) (hd : decode cc pc = .ok (.putfield idx, 3)) (kk : gW Θ l D ad nL (pc + 3) lv st (xU x 36 0 0 a) y) : gW Θ l D ad nL pc lv (.int (J a) :: .ref (ad 5 0) :: st) x y := by
  obtain ⟨p, e, R, s, m, args, below, meth, c, Q, A, H0, cells, slots⟩ := Θ
  obtain ⟨hx, hb, hml, ho, hts, hN, hK, hAp, hr1, hr2, hr3, hr4⟩ := F
  intro H locs ls hl hP hS
  refine va_putN (D := D.1) (ci := 5) (C := RX5) (T := TX5) (N := 4) hx hb hts lA5 tyX5 tyX5_ok nmX5 ho hK hP (gAp_D hAp) hS (14) (gV_at gI_5) rfl 2 (by decide) (va_Nw.use rfl (hN _ hw)) (fun _ h => h) rfl (ty := .int) (by decide +kernel) rfl rfl (Nat.le_of_ble_eq_true rfl) hd (fun H locs hP _ hS => kk H locs ls hl ?_ hS)
  refine Eq.mp (congrArg (fun q => va_P D.1 vwCl q H) (gV_set gI_5 ?_)) hP
  intro k1 i1
  exact gE_p_5_36 k1 i1
theorem gg_Reader_place {Θ : gT} {l : Launch} {D : gD} {ad : gA} {cc : ByteArray} {own : String} {nL d pc : Nat} {lv : List (Nat × Value)} {st : List Value} {x : gX} {y : gY} {idx : Nat} (F : gF Θ l D ad cc own nL d) (hw : Cond.fieldLink own idx "ThirdDay$Reader" (TX5 3).2.1 (TX5 3).2.2.1 ∈ wA) (hd : decode cc pc = .ok (.getfield idx, 3)) (kk : gW Θ l D ad nL (pc + 3) lv (.int (J (x 37 0 0)) :: st) x y) : gW Θ l D ad nL pc lv (.ref (ad 5 0) :: st) x y := by
  obtain ⟨p, e, R, s, m, args, below, meth, c, Q, A, H0, cells, slots⟩ := Θ
  obtain ⟨hx, hb, hml, ho, hts, hN, hK, hAp, hr1, hr2, hr3, hr4⟩ := F
  intro H locs ls hl hP hS
  exact va_get (D := D.1) (ci := 5) (C := RX5) (T := TX5) (N := 4) hx hb hts lA5 ho hK hP (14) (gV_at gI_5) rfl 3 (by decide) (hts _ hw) (fun _ h => h) rfl hd (kk H locs ls hl hP hS)
theorem gp_Reader_place {Θ : gT} {l : Launch} {D : gD} {ad : gA} {cc : ByteArray} {own : String} {nL d pc : Nat} {lv : List (Nat × Value)} {st : List Value} {x : gX} {y : gY} {a : Int} {idx : Nat} (F : gF Θ l D ad cc own nL d) (hw : Cond.fieldLink own idx "ThirdDay$Reader" (TX5 3).2.1 (TX5 3).2.2.1 ∈ wA) (hd : decode cc pc = .ok (.putfield idx, 3)) (kk : gW Θ l D ad nL (pc + 3) lv st (xU x 37 0 0 a) y) : gW Θ l D ad nL pc lv (.int (J a) :: .ref (ad 5 0) :: st) x y := by
  obtain ⟨p, e, R, s, m, args, below, meth, c, Q, A, H0, cells, slots⟩ := Θ
  obtain ⟨hx, hb, hml, ho, hts, hN, hK, hAp, hr1, hr2, hr3, hr4⟩ := F
  intro H locs ls hl hP hS
  refine va_put (D := D.1) (ci := 5) (C := RX5) (T := TX5) (N := 4) hx hb hts lA5 tyX5 tyX5_ok nmX5 ho hK hP (gAp_D hAp) hS (14) (gV_at gI_5) rfl 3 (by decide) (hts _ hw) (fun _ h => h) rfl (ty := .int) (by decide +kernel) rfl rfl (Nat.le_of_ble_eq_true rfl) hd (fun H locs hP _ hS => kk H locs ls hl ?_ hS)
  refine Eq.mp (congrArg (fun q => va_P D.1 vwCl q H) (gV_set gI_5 ?_)) hP
  intro k1 i1
  exact gE_p_5_37 k1 i1
theorem ggN_Reader_place {Θ : gT} {l : Launch} {D : gD} {ad : gA} {cc : ByteArray} {own : String} {nL d pc : Nat} {lv : List (Nat × Value)} {st : List Value} {x : gX} {y : gY} {host : String} {idx : Nat} (F : gF Θ l D ad cc own nL d) (hw : Cond.fieldLinkNest own idx "ThirdDay$Reader" (TX5 3).2.1 (TX5 3).2.2.1 host ∈ wN) (hd : decode cc pc = .ok (.getfield idx, 3)) (kk : gW Θ l D ad nL (pc + 3) lv (.int (J (x 37 0 0)) :: st) x y) : gW Θ l D ad nL pc lv (.ref (ad 5 0) :: st) x y := by
  obtain ⟨p, e, R, s, m, args, below, meth, c, Q, A, H0, cells, slots⟩ := Θ
  obtain ⟨hx, hb, hml, ho, hts, hN, hK, hAp, hr1, hr2, hr3, hr4⟩ := F
  intro H locs ls hl hP hS
  exact va_getN (D := D.1) (ci := 5) (C := RX5) (T := TX5) (N := 4) hx hb hts lA5 ho hK hP (14) (gV_at gI_5) rfl 3 (by decide) (va_Nw.use rfl (hN _ hw)) (fun _ h => h) rfl hd (kk H locs ls hl hP hS)
theorem gpN_Reader_place {Θ : gT} {l : Launch} {D : gD} {ad : gA} {cc : ByteArray} {own : String} {nL d pc : Nat} {lv : List (Nat × Value)} {st : List Value} {x : gX} {y : gY} {host : String} {a : Int} {idx : Nat} (F : gF Θ l D ad cc own nL d) (hw : Cond.fieldLinkNest own idx "ThirdDay$Reader" (TX5 3).2.1 (TX5 3).2.2.1 host ∈ wN) (hd : decode cc pc = .ok (.putfield idx, 3)) (kk : gW Θ l D ad nL (pc + 3) lv st (xU x 37 0 0 a) y) : gW Θ l D ad nL pc lv (.int (J a) :: .ref (ad 5 0) :: st) x y := by
  obtain ⟨p, e, R, s, m, args, below, meth, c, Q, A, H0, cells, slots⟩ := Θ
  obtain ⟨hx, hb, hml, ho, hts, hN, hK, hAp, hr1, hr2, hr3, hr4⟩ := F
  intro H locs ls hl hP hS
  refine va_putN (D := D.1) (ci := 5) (C := RX5) (T := TX5) (N := 4) hx hb hts lA5 tyX5 tyX5_ok nmX5 ho hK hP (gAp_D hAp) hS (14) (gV_at gI_5) rfl 3 (by decide) (va_Nw.use rfl (hN _ hw)) (fun _ h => h) rfl (ty := .int) (by decide +kernel) rfl rfl (Nat.le_of_ble_eq_true rfl) hd (fun H locs hP _ hS => kk H locs ls hl ?_ hS)
  refine Eq.mp (congrArg (fun q => va_P D.1 vwCl q H) (gV_set gI_5 ?_)) hP
  intro k1 i1
  exact gE_p_5_37 k1 i1
theorem gg_Row_places {Θ : gT} {l : Launch} {D : gD} {ad : gA} {cc : ByteArray} {own : String} {nL d pc : Nat} {lv : List (Nat × Value)} {st : List Value} {x : gX} {y : gY} {i : Int} {idx : Nat} (F : gF Θ l D ad cc own nL d) (hi : 0 ≤ i ∧ i < 10) (hw : Cond.fieldLink own idx "ThirdDay$Row" (TX6 0).2.1 (TX6 0).2.2.1 ∈ wA) (hd : decode cc pc = .ok (.getfield idx, 3)) (kk : gW Θ l D ad nL (pc + 3) lv (.ref (ad 20 i) :: st) x y) : gW Θ l D ad nL pc lv (.ref (ad 6 i) :: st) x y := by
  obtain ⟨p, e, R, s, m, args, below, meth, c, Q, A, H0, cells, slots⟩ := Θ
  obtain ⟨hx, hb, hml, ho, hts, hN, hK, hAp, hr1, hr2, hr3, hr4⟩ := F
  intro H locs ls hl hP hS
  exact va_get (D := D.1) (ci := 6) (C := RX6) (T := TX6) (N := 2) hx hb hts lA6 ho hK hP ((15 + i).toNat) (gV_at (gI_6 hi)) rfl 0 (by decide) (hts _ hw) (fun _ h => h) rfl hd (kk H locs ls hl hP hS)
theorem ggN_Row_places {Θ : gT} {l : Launch} {D : gD} {ad : gA} {cc : ByteArray} {own : String} {nL d pc : Nat} {lv : List (Nat × Value)} {st : List Value} {x : gX} {y : gY} {i : Int} {host : String} {idx : Nat} (F : gF Θ l D ad cc own nL d) (hi : 0 ≤ i ∧ i < 10) (hw : Cond.fieldLinkNest own idx "ThirdDay$Row" (TX6 0).2.1 (TX6 0).2.2.1 host ∈ wN) (hd : decode cc pc = .ok (.getfield idx, 3)) (kk : gW Θ l D ad nL (pc + 3) lv (.ref (ad 20 i) :: st) x y) : gW Θ l D ad nL pc lv (.ref (ad 6 i) :: st) x y := by
  obtain ⟨p, e, R, s, m, args, below, meth, c, Q, A, H0, cells, slots⟩ := Θ
  obtain ⟨hx, hb, hml, ho, hts, hN, hK, hAp, hr1, hr2, hr3, hr4⟩ := F
  intro H locs ls hl hP hS
  exact va_getN (D := D.1) (ci := 6) (C := RX6) (T := TX6) (N := 2) hx hb hts lA6 ho hK hP ((15 + i).toNat) (gV_at (gI_6 hi)) rfl 0 (by decide) (va_Nw.use rfl (hN _ hw)) (fun _ h => h) rfl hd (kk H locs ls hl hP hS)
theorem gg_Row_size {Θ : gT} {l : Launch} {D : gD} {ad : gA} {cc : ByteArray} {own : String} {nL d pc : Nat} {lv : List (Nat × Value)} {st : List Value} {x : gX} {y : gY} {i : Int} {idx : Nat} (F : gF Θ l D ad cc own nL d) (hi : 0 ≤ i ∧ i < 10) (hw : Cond.fieldLink own idx "ThirdDay$Row" (TX6 1).2.1 (TX6 1).2.2.1 ∈ wA) (hd : decode cc pc = .ok (.getfield idx, 3)) (kk : gW Θ l D ad nL (pc + 3) lv (.int (J (x 17 i 0)) :: st) x y) : gW Θ l D ad nL pc lv (.ref (ad 6 i) :: st) x y := by
  obtain ⟨p, e, R, s, m, args, below, meth, c, Q, A, H0, cells, slots⟩ := Θ
  obtain ⟨hx, hb, hml, ho, hts, hN, hK, hAp, hr1, hr2, hr3, hr4⟩ := F
  intro H locs ls hl hP hS
  exact va_get (D := D.1) (ci := 6) (C := RX6) (T := TX6) (N := 2) hx hb hts lA6 ho hK hP ((15 + i).toNat) (gV_at (gI_6 hi)) rfl 1 (by decide) (hts _ hw) (fun _ h => h) rfl hd (kk H locs ls hl hP hS)
theorem gp_Row_size {Θ : gT} {l : Launch} {D : gD} {ad : gA} {cc : ByteArray} {own : String} {nL d pc : Nat} {lv : List (Nat × Value)} {st : List Value} {x : gX} {y : gY} {i : Int} {a : Int} {idx : Nat} (F : gF Θ l D ad cc own nL d) (hi : 0 ≤ i ∧ i < 10) (hw : Cond.fieldLink own idx "ThirdDay$Row" (TX6 1).2.1 (TX6 1).2.2.1 ∈ wA) (hd : decode cc pc = .ok (.putfield idx, 3)) (kk : gW Θ l D ad nL (pc + 3) lv st (xU x 17 i 0 a) y) : gW Θ l D ad nL pc lv (.int (J a) :: .ref (ad 6 i) :: st) x y := by
  obtain ⟨p, e, R, s, m, args, below, meth, c, Q, A, H0, cells, slots⟩ := Θ
  obtain ⟨hx, hb, hml, ho, hts, hN, hK, hAp, hr1, hr2, hr3, hr4⟩ := F
  intro H locs ls hl hP hS
  refine va_put (D := D.1) (ci := 6) (C := RX6) (T := TX6) (N := 2) hx hb hts lA6 tyX6 tyX6_ok nmX6 ho hK hP (gAp_D hAp) hS ((15 + i).toNat) (gV_at (gI_6 hi)) rfl 1 (by decide) (hts _ hw) (fun _ h => h) rfl (ty := .int) (by decide +kernel) rfl rfl (Nat.le_of_ble_eq_true rfl) hd (fun H locs hP _ hS => kk H locs ls hl ?_ hS)
  refine Eq.mp (congrArg (fun q => va_P D.1 vwCl q H) (gV_set (gI_6 hi) ?_)) hP
  intro k1 i1
  exact gE_p_6_17 k1 i1
theorem ggN_Row_size {Θ : gT} {l : Launch} {D : gD} {ad : gA} {cc : ByteArray} {own : String} {nL d pc : Nat} {lv : List (Nat × Value)} {st : List Value} {x : gX} {y : gY} {i : Int} {host : String} {idx : Nat} (F : gF Θ l D ad cc own nL d) (hi : 0 ≤ i ∧ i < 10) (hw : Cond.fieldLinkNest own idx "ThirdDay$Row" (TX6 1).2.1 (TX6 1).2.2.1 host ∈ wN) (hd : decode cc pc = .ok (.getfield idx, 3)) (kk : gW Θ l D ad nL (pc + 3) lv (.int (J (x 17 i 0)) :: st) x y) : gW Θ l D ad nL pc lv (.ref (ad 6 i) :: st) x y := by
  obtain ⟨p, e, R, s, m, args, below, meth, c, Q, A, H0, cells, slots⟩ := Θ
  obtain ⟨hx, hb, hml, ho, hts, hN, hK, hAp, hr1, hr2, hr3, hr4⟩ := F
  intro H locs ls hl hP hS
  exact va_getN (D := D.1) (ci := 6) (C := RX6) (T := TX6) (N := 2) hx hb hts lA6 ho hK hP ((15 + i).toNat) (gV_at (gI_6 hi)) rfl 1 (by decide) (va_Nw.use rfl (hN _ hw)) (fun _ h => h) rfl hd (kk H locs ls hl hP hS)
theorem gpN_Row_size {Θ : gT} {l : Launch} {D : gD} {ad : gA} {cc : ByteArray} {own : String} {nL d pc : Nat} {lv : List (Nat × Value)} {st : List Value} {x : gX} {y : gY} {i : Int} {host : String} {a : Int} {idx : Nat} (F : gF Θ l D ad cc own nL d) (hi : 0 ≤ i ∧ i < 10) (hw : Cond.fieldLinkNest own idx "ThirdDay$Row" (TX6 1).2.1 (TX6 1).2.2.1 host ∈ wN) (hd : decode cc pc = .ok (.putfield idx, 3)) (kk : gW Θ l D ad nL (pc + 3) lv st (xU x 17 i 0 a) y) : gW Θ l D ad nL pc lv (.int (J a) :: .ref (ad 6 i) :: st) x y := by
  obtain ⟨p, e, R, s, m, args, below, meth, c, Q, A, H0, cells, slots⟩ := Θ
  obtain ⟨hx, hb, hml, ho, hts, hN, hK, hAp, hr1, hr2, hr3, hr4⟩ := F
  intro H locs ls hl hP hS
  refine va_putN (D := D.1) (ci := 6) (C := RX6) (T := TX6) (N := 2) hx hb hts lA6 tyX6 tyX6_ok nmX6 ho hK hP (gAp_D hAp) hS ((15 + i).toNat) (gV_at (gI_6 hi)) rfl 1 (by decide) (va_Nw.use rfl (hN _ hw)) (fun _ h => h) rfl (ty := .int) (by decide +kernel) rfl rfl (Nat.le_of_ble_eq_true rfl) hd (fun H locs hP _ hS => kk H locs ls hl ?_ hS)
  refine Eq.mp (congrArg (fun q => va_P D.1 vwCl q H) (gV_set (gI_6 hi) ?_)) hP
  intro k1 i1
  exact gE_p_6_17 k1 i1
theorem gg_Day_rows {Θ : gT} {l : Launch} {D : gD} {ad : gA} {cc : ByteArray} {own : String} {nL d pc : Nat} {lv : List (Nat × Value)} {st : List Value} {x : gX} {y : gY} {idx : Nat} (F : gF Θ l D ad cc own nL d) (hw : Cond.fieldLink own idx "ThirdDay" (TX7 0).2.1 (TX7 0).2.2.1 ∈ wA) (hd : decode cc pc = .ok (.getfield idx, 3)) (kk : gW Θ l D ad nL (pc + 3) lv (.ref (ad 30 0) :: st) x y) : gW Θ l D ad nL pc lv (.ref (ad 7 0) :: st) x y := by
  obtain ⟨p, e, R, s, m, args, below, meth, c, Q, A, H0, cells, slots⟩ := Θ
  obtain ⟨hx, hb, hml, ho, hts, hN, hK, hAp, hr1, hr2, hr3, hr4⟩ := F
  intro H locs ls hl hP hS
  exact va_get (D := D.1) (ci := 7) (C := RX7) (T := TX7) (N := 12) hx hb hts lA7 ho hK hP (25) (gV_at gI_7) rfl 0 (by decide) (hts _ hw) (fun _ h => h) rfl hd (kk H locs ls hl hP hS)
theorem gg_Day_texts {Θ : gT} {l : Launch} {D : gD} {ad : gA} {cc : ByteArray} {own : String} {nL d pc : Nat} {lv : List (Nat × Value)} {st : List Value} {x : gX} {y : gY} {idx : Nat} (F : gF Θ l D ad cc own nL d) (hw : Cond.fieldLink own idx "ThirdDay" (TX7 1).2.1 (TX7 1).2.2.1 ∈ wA) (hd : decode cc pc = .ok (.getfield idx, 3)) (kk : gW Θ l D ad nL (pc + 3) lv (.ref (ad 31 0) :: st) x y) : gW Θ l D ad nL pc lv (.ref (ad 7 0) :: st) x y := by
  obtain ⟨p, e, R, s, m, args, below, meth, c, Q, A, H0, cells, slots⟩ := Θ
  obtain ⟨hx, hb, hml, ho, hts, hN, hK, hAp, hr1, hr2, hr3, hr4⟩ := F
  intro H locs ls hl hP hS
  exact va_get (D := D.1) (ci := 7) (C := RX7) (T := TX7) (N := 12) hx hb hts lA7 ho hK hP (25) (gV_at gI_7) rfl 1 (by decide) (hts _ hw) (fun _ h => h) rfl hd (kk H locs ls hl hP hS)
theorem gg_Day_reader {Θ : gT} {l : Launch} {D : gD} {ad : gA} {cc : ByteArray} {own : String} {nL d pc : Nat} {lv : List (Nat × Value)} {st : List Value} {x : gX} {y : gY} {idx : Nat} (F : gF Θ l D ad cc own nL d) (hw : Cond.fieldLink own idx "ThirdDay" (TX7 2).2.1 (TX7 2).2.2.1 ∈ wA) (hd : decode cc pc = .ok (.getfield idx, 3)) (kk : gW Θ l D ad nL (pc + 3) lv (.ref (ad 5 0) :: st) x y) : gW Θ l D ad nL pc lv (.ref (ad 7 0) :: st) x y := by
  obtain ⟨p, e, R, s, m, args, below, meth, c, Q, A, H0, cells, slots⟩ := Θ
  obtain ⟨hx, hb, hml, ho, hts, hN, hK, hAp, hr1, hr2, hr3, hr4⟩ := F
  intro H locs ls hl hP hS
  exact va_get (D := D.1) (ci := 7) (C := RX7) (T := TX7) (N := 12) hx hb hts lA7 ho hK hP (25) (gV_at gI_7) rfl 2 (by decide) (hts _ hw) (fun _ h => h) rfl hd (kk H locs ls hl hP hS)
theorem gg_Day_court {Θ : gT} {l : Launch} {D : gD} {ad : gA} {cc : ByteArray} {own : String} {nL d pc : Nat} {lv : List (Nat × Value)} {st : List Value} {x : gX} {y : gY} {idx : Nat} (F : gF Θ l D ad cc own nL d) (hw : Cond.fieldLink own idx "ThirdDay" (TX7 3).2.1 (TX7 3).2.2.1 ∈ wA) (hd : decode cc pc = .ok (.getfield idx, 3)) (kk : gW Θ l D ad nL (pc + 3) lv (.ref (ad 0 0) :: st) x y) : gW Θ l D ad nL pc lv (.ref (ad 7 0) :: st) x y := by
  obtain ⟨p, e, R, s, m, args, below, meth, c, Q, A, H0, cells, slots⟩ := Θ
  obtain ⟨hx, hb, hml, ho, hts, hN, hK, hAp, hr1, hr2, hr3, hr4⟩ := F
  intro H locs ls hl hP hS
  exact va_get (D := D.1) (ci := 7) (C := RX7) (T := TX7) (N := 12) hx hb hts lA7 ho hK hP (25) (gV_at gI_7) rfl 3 (by decide) (hts _ hw) (fun _ h => h) rfl hd (kk H locs ls hl hP hS)
theorem gg_Day_kept {Θ : gT} {l : Launch} {D : gD} {ad : gA} {cc : ByteArray} {own : String} {nL d pc : Nat} {lv : List (Nat × Value)} {st : List Value} {x : gX} {y : gY} {idx : Nat} (F : gF Θ l D ad cc own nL d) (hw : Cond.fieldLink own idx "ThirdDay" (TX7 4).2.1 (TX7 4).2.2.1 ∈ wA) (hd : decode cc pc = .ok (.getfield idx, 3)) (kk : gW Θ l D ad nL (pc + 3) lv (.ref (ad 33 0) :: st) x y) : gW Θ l D ad nL pc lv (.ref (ad 7 0) :: st) x y := by
  obtain ⟨p, e, R, s, m, args, below, meth, c, Q, A, H0, cells, slots⟩ := Θ
  obtain ⟨hx, hb, hml, ho, hts, hN, hK, hAp, hr1, hr2, hr3, hr4⟩ := F
  intro H locs ls hl hP hS
  exact va_get (D := D.1) (ci := 7) (C := RX7) (T := TX7) (N := 12) hx hb hts lA7 ho hK hP (25) (gV_at gI_7) rfl 4 (by decide) (hts _ hw) (fun _ h => h) rfl hd (kk H locs ls hl hP hS)
theorem gg_Day_orders {Θ : gT} {l : Launch} {D : gD} {ad : gA} {cc : ByteArray} {own : String} {nL d pc : Nat} {lv : List (Nat × Value)} {st : List Value} {x : gX} {y : gY} {idx : Nat} (F : gF Θ l D ad cc own nL d) (hw : Cond.fieldLink own idx "ThirdDay" (TX7 5).2.1 (TX7 5).2.2.1 ∈ wA) (hd : decode cc pc = .ok (.getfield idx, 3)) (kk : gW Θ l D ad nL (pc + 3) lv (.ref (ad 4 0) :: st) x y) : gW Θ l D ad nL pc lv (.ref (ad 7 0) :: st) x y := by
  obtain ⟨p, e, R, s, m, args, below, meth, c, Q, A, H0, cells, slots⟩ := Θ
  obtain ⟨hx, hb, hml, ho, hts, hN, hK, hAp, hr1, hr2, hr3, hr4⟩ := F
  intro H locs ls hl hP hS
  exact va_get (D := D.1) (ci := 7) (C := RX7) (T := TX7) (N := 12) hx hb hts lA7 ho hK hP (25) (gV_at gI_7) rfl 5 (by decide) (hts _ hw) (fun _ h => h) rfl hd (kk H locs ls hl hP hS)
theorem gg_Day_turns {Θ : gT} {l : Launch} {D : gD} {ad : gA} {cc : ByteArray} {own : String} {nL d pc : Nat} {lv : List (Nat × Value)} {st : List Value} {x : gX} {y : gY} {idx : Nat} (F : gF Θ l D ad cc own nL d) (hw : Cond.fieldLink own idx "ThirdDay" (TX7 6).2.1 (TX7 6).2.2.1 ∈ wA) (hd : decode cc pc = .ok (.getfield idx, 3)) (kk : gW Θ l D ad nL (pc + 3) lv (.ref (ad 2 0) :: st) x y) : gW Θ l D ad nL pc lv (.ref (ad 7 0) :: st) x y := by
  obtain ⟨p, e, R, s, m, args, below, meth, c, Q, A, H0, cells, slots⟩ := Θ
  obtain ⟨hx, hb, hml, ho, hts, hN, hK, hAp, hr1, hr2, hr3, hr4⟩ := F
  intro H locs ls hl hP hS
  exact va_get (D := D.1) (ci := 7) (C := RX7) (T := TX7) (N := 12) hx hb hts lA7 ho hK hP (25) (gV_at gI_7) rfl 6 (by decide) (hts _ hw) (fun _ h => h) rfl hd (kk H locs ls hl hP hS)
theorem gg_Day_findingCounts {Θ : gT} {l : Launch} {D : gD} {ad : gA} {cc : ByteArray} {own : String} {nL d pc : Nat} {lv : List (Nat × Value)} {st : List Value} {x : gX} {y : gY} {idx : Nat} (F : gF Θ l D ad cc own nL d) (hw : Cond.fieldLink own idx "ThirdDay" (TX7 7).2.1 (TX7 7).2.2.1 ∈ wA) (hd : decode cc pc = .ok (.getfield idx, 3)) (kk : gW Θ l D ad nL (pc + 3) lv (.ref (ad 26 0) :: st) x y) : gW Θ l D ad nL pc lv (.ref (ad 7 0) :: st) x y := by
  obtain ⟨p, e, R, s, m, args, below, meth, c, Q, A, H0, cells, slots⟩ := Θ
  obtain ⟨hx, hb, hml, ho, hts, hN, hK, hAp, hr1, hr2, hr3, hr4⟩ := F
  intro H locs ls hl hP hS
  exact va_get (D := D.1) (ci := 7) (C := RX7) (T := TX7) (N := 12) hx hb hts lA7 ho hK hP (25) (gV_at gI_7) rfl 7 (by decide) (hts _ hw) (fun _ h => h) rfl hd (kk H locs ls hl hP hS)
theorem gg_Day_latestFinding {Θ : gT} {l : Launch} {D : gD} {ad : gA} {cc : ByteArray} {own : String} {nL d pc : Nat} {lv : List (Nat × Value)} {st : List Value} {x : gX} {y : gY} {idx : Nat} (F : gF Θ l D ad cc own nL d) (hw : Cond.fieldLink own idx "ThirdDay" (TX7 8).2.1 (TX7 8).2.2.1 ∈ wA) (hd : decode cc pc = .ok (.getfield idx, 3)) (kk : gW Θ l D ad nL (pc + 3) lv (.int (J (x 18 0 0)) :: st) x y) : gW Θ l D ad nL pc lv (.ref (ad 7 0) :: st) x y := by
  obtain ⟨p, e, R, s, m, args, below, meth, c, Q, A, H0, cells, slots⟩ := Θ
  obtain ⟨hx, hb, hml, ho, hts, hN, hK, hAp, hr1, hr2, hr3, hr4⟩ := F
  intro H locs ls hl hP hS
  exact va_get (D := D.1) (ci := 7) (C := RX7) (T := TX7) (N := 12) hx hb hts lA7 ho hK hP (25) (gV_at gI_7) rfl 8 (by decide) (hts _ hw) (fun _ h => h) rfl hd (kk H locs ls hl hP hS)
theorem gp_Day_latestFinding {Θ : gT} {l : Launch} {D : gD} {ad : gA} {cc : ByteArray} {own : String} {nL d pc : Nat} {lv : List (Nat × Value)} {st : List Value} {x : gX} {y : gY} {a : Int} {idx : Nat} (F : gF Θ l D ad cc own nL d) (hw : Cond.fieldLink own idx "ThirdDay" (TX7 8).2.1 (TX7 8).2.2.1 ∈ wA) (hd : decode cc pc = .ok (.putfield idx, 3)) (kk : gW Θ l D ad nL (pc + 3) lv st (xU x 18 0 0 a) y) : gW Θ l D ad nL pc lv (.int (J a) :: .ref (ad 7 0) :: st) x y := by
  obtain ⟨p, e, R, s, m, args, below, meth, c, Q, A, H0, cells, slots⟩ := Θ
  obtain ⟨hx, hb, hml, ho, hts, hN, hK, hAp, hr1, hr2, hr3, hr4⟩ := F
  intro H locs ls hl hP hS
  refine va_put (D := D.1) (ci := 7) (C := RX7) (T := TX7) (N := 12) hx hb hts lA7 tyX7 tyX7_ok nmX7 ho hK hP (gAp_D hAp) hS (25) (gV_at gI_7) rfl 8 (by decide) (hts _ hw) (fun _ h => h) rfl (ty := .int) (by decide +kernel) rfl rfl (Nat.le_of_ble_eq_true rfl) hd (fun H locs hP _ hS => kk H locs ls hl ?_ hS)
  refine Eq.mp (congrArg (fun q => va_P D.1 vwCl q H) (gV_set gI_7 ?_)) hP
  intro k1 i1
  exact gE_p_7_18 k1 i1
theorem gg_Day_told {Θ : gT} {l : Launch} {D : gD} {ad : gA} {cc : ByteArray} {own : String} {nL d pc : Nat} {lv : List (Nat × Value)} {st : List Value} {x : gX} {y : gY} {idx : Nat} (F : gF Θ l D ad cc own nL d) (hw : Cond.fieldLink own idx "ThirdDay" (TX7 9).2.1 (TX7 9).2.2.1 ∈ wA) (hd : decode cc pc = .ok (.getfield idx, 3)) (kk : gW Θ l D ad nL (pc + 3) lv (.int (J (x 19 0 0)) :: st) x y) : gW Θ l D ad nL pc lv (.ref (ad 7 0) :: st) x y := by
  obtain ⟨p, e, R, s, m, args, below, meth, c, Q, A, H0, cells, slots⟩ := Θ
  obtain ⟨hx, hb, hml, ho, hts, hN, hK, hAp, hr1, hr2, hr3, hr4⟩ := F
  intro H locs ls hl hP hS
  exact va_get (D := D.1) (ci := 7) (C := RX7) (T := TX7) (N := 12) hx hb hts lA7 ho hK hP (25) (gV_at gI_7) rfl 9 (by decide) (hts _ hw) (fun _ h => h) rfl hd (kk H locs ls hl hP hS)
theorem gp_Day_told {Θ : gT} {l : Launch} {D : gD} {ad : gA} {cc : ByteArray} {own : String} {nL d pc : Nat} {lv : List (Nat × Value)} {st : List Value} {x : gX} {y : gY} {a : Int} {idx : Nat} (F : gF Θ l D ad cc own nL d) (hw : Cond.fieldLink own idx "ThirdDay" (TX7 9).2.1 (TX7 9).2.2.1 ∈ wA) (hd : decode cc pc = .ok (.putfield idx, 3)) (kk : gW Θ l D ad nL (pc + 3) lv st (xU x 19 0 0 a) y) : gW Θ l D ad nL pc lv (.int (J a) :: .ref (ad 7 0) :: st) x y := by
  obtain ⟨p, e, R, s, m, args, below, meth, c, Q, A, H0, cells, slots⟩ := Θ
  obtain ⟨hx, hb, hml, ho, hts, hN, hK, hAp, hr1, hr2, hr3, hr4⟩ := F
  intro H locs ls hl hP hS
  refine va_put (D := D.1) (ci := 7) (C := RX7) (T := TX7) (N := 12) hx hb hts lA7 tyX7 tyX7_ok nmX7 ho hK hP (gAp_D hAp) hS (25) (gV_at gI_7) rfl 9 (by decide) (hts _ hw) (fun _ h => h) rfl (ty := .int) (by decide +kernel) rfl rfl (Nat.le_of_ble_eq_true rfl) hd (fun H locs hP _ hS => kk H locs ls hl ?_ hS)
  refine Eq.mp (congrArg (fun q => va_P D.1 vwCl q H) (gV_set gI_7 ?_)) hP
  intro k1 i1
  exact gE_p_7_19 k1 i1
theorem gg_Day_upperTold {Θ : gT} {l : Launch} {D : gD} {ad : gA} {cc : ByteArray} {own : String} {nL d pc : Nat} {lv : List (Nat × Value)} {st : List Value} {x : gX} {y : gY} {idx : Nat} (F : gF Θ l D ad cc own nL d) (hw : Cond.fieldLink own idx "ThirdDay" (TX7 10).2.1 (TX7 10).2.2.1 ∈ wA) (hd : decode cc pc = .ok (.getfield idx, 3)) (kk : gW Θ l D ad nL (pc + 3) lv (.long (Lg (x 8 0 0)) :: st) x y) : gW Θ l D ad nL pc lv (.ref (ad 7 0) :: st) x y := by
  obtain ⟨p, e, R, s, m, args, below, meth, c, Q, A, H0, cells, slots⟩ := Θ
  obtain ⟨hx, hb, hml, ho, hts, hN, hK, hAp, hr1, hr2, hr3, hr4⟩ := F
  intro H locs ls hl hP hS
  exact va_get (D := D.1) (ci := 7) (C := RX7) (T := TX7) (N := 12) hx hb hts lA7 ho hK hP (25) (gV_at gI_7) rfl 10 (by decide) (hts _ hw) (fun _ h => h) rfl hd (kk H locs ls hl hP hS)
theorem gp_Day_upperTold {Θ : gT} {l : Launch} {D : gD} {ad : gA} {cc : ByteArray} {own : String} {nL d pc : Nat} {lv : List (Nat × Value)} {st : List Value} {x : gX} {y : gY} {a : Int} {idx : Nat} (F : gF Θ l D ad cc own nL d) (hw : Cond.fieldLink own idx "ThirdDay" (TX7 10).2.1 (TX7 10).2.2.1 ∈ wA) (hd : decode cc pc = .ok (.putfield idx, 3)) (kk : gW Θ l D ad nL (pc + 3) lv st (xU x 8 0 0 a) y) : gW Θ l D ad nL pc lv (.long (Lg a) :: .ref (ad 7 0) :: st) x y := by
  obtain ⟨p, e, R, s, m, args, below, meth, c, Q, A, H0, cells, slots⟩ := Θ
  obtain ⟨hx, hb, hml, ho, hts, hN, hK, hAp, hr1, hr2, hr3, hr4⟩ := F
  intro H locs ls hl hP hS
  refine va_put (D := D.1) (ci := 7) (C := RX7) (T := TX7) (N := 12) hx hb hts lA7 tyX7 tyX7_ok nmX7 ho hK hP (gAp_D hAp) hS (25) (gV_at gI_7) rfl 10 (by decide) (hts _ hw) (fun _ h => h) rfl (ty := .long) (by decide +kernel) rfl rfl (Nat.le_of_ble_eq_true rfl) hd (fun H locs hP _ hS => kk H locs ls hl ?_ hS)
  refine Eq.mp (congrArg (fun q => va_P D.1 vwCl q H) (gV_set gI_7 ?_)) hP
  intro k1 i1
  exact gE_p_7_8 k1 i1
theorem gg_Day_lowerTold {Θ : gT} {l : Launch} {D : gD} {ad : gA} {cc : ByteArray} {own : String} {nL d pc : Nat} {lv : List (Nat × Value)} {st : List Value} {x : gX} {y : gY} {idx : Nat} (F : gF Θ l D ad cc own nL d) (hw : Cond.fieldLink own idx "ThirdDay" (TX7 11).2.1 (TX7 11).2.2.1 ∈ wA) (hd : decode cc pc = .ok (.getfield idx, 3)) (kk : gW Θ l D ad nL (pc + 3) lv (.long (Lg (x 9 0 0)) :: st) x y) : gW Θ l D ad nL pc lv (.ref (ad 7 0) :: st) x y := by
  obtain ⟨p, e, R, s, m, args, below, meth, c, Q, A, H0, cells, slots⟩ := Θ
  obtain ⟨hx, hb, hml, ho, hts, hN, hK, hAp, hr1, hr2, hr3, hr4⟩ := F
  intro H locs ls hl hP hS
  exact va_get (D := D.1) (ci := 7) (C := RX7) (T := TX7) (N := 12) hx hb hts lA7 ho hK hP (25) (gV_at gI_7) rfl 11 (by decide) (hts _ hw) (fun _ h => h) rfl hd (kk H locs ls hl hP hS)
theorem gp_Day_lowerTold {Θ : gT} {l : Launch} {D : gD} {ad : gA} {cc : ByteArray} {own : String} {nL d pc : Nat} {lv : List (Nat × Value)} {st : List Value} {x : gX} {y : gY} {a : Int} {idx : Nat} (F : gF Θ l D ad cc own nL d) (hw : Cond.fieldLink own idx "ThirdDay" (TX7 11).2.1 (TX7 11).2.2.1 ∈ wA) (hd : decode cc pc = .ok (.putfield idx, 3)) (kk : gW Θ l D ad nL (pc + 3) lv st (xU x 9 0 0 a) y) : gW Θ l D ad nL pc lv (.long (Lg a) :: .ref (ad 7 0) :: st) x y := by
  obtain ⟨p, e, R, s, m, args, below, meth, c, Q, A, H0, cells, slots⟩ := Θ
  obtain ⟨hx, hb, hml, ho, hts, hN, hK, hAp, hr1, hr2, hr3, hr4⟩ := F
  intro H locs ls hl hP hS
  refine va_put (D := D.1) (ci := 7) (C := RX7) (T := TX7) (N := 12) hx hb hts lA7 tyX7 tyX7_ok nmX7 ho hK hP (gAp_D hAp) hS (25) (gV_at gI_7) rfl 11 (by decide) (hts _ hw) (fun _ h => h) rfl (ty := .long) (by decide +kernel) rfl rfl (Nat.le_of_ble_eq_true rfl) hd (fun H locs hP _ hS => kk H locs ls hl ?_ hS)
  refine Eq.mp (congrArg (fun q => va_P D.1 vwCl q H) (gV_set gI_7 ?_)) hP
  intro k1 i1
  exact gE_p_7_9 k1 i1
theorem ga_20 {Θ : gT} {l : Launch} {D : gD} {ad : gA} {cc : ByteArray} {own : String} {nL d pc : Nat} {lv : List (Nat × Value)} {st : List Value} {x : gX} {y : gY} {i : Int} {j : Int} (F : gF Θ l D ad cc own nL d) (hi : 0 ≤ i ∧ i < 10) (hj : 0 ≤ j ∧ j < (if i < 6 then 40 else 60)) (hd : decode cc pc = .ok (.iaload, 1)) (kk : gW Θ l D ad nL (pc + 1) lv (.int (J (x 20 i j)) :: st) x y) : gW Θ l D ad nL pc lv (.int (J j) :: .ref (ad 20 i) :: st) x y := by
  obtain ⟨p, e, R, s, m, args, below, meth, c, Q, A, H0, cells, slots⟩ := Θ
  obtain ⟨hx, hb, hml, ho, hts, hN, hK, hAp, hr1, hr2, hr3, hr4⟩ := F
  intro H locs ls hl hP hS
  have hin : vp_in (J j) (if i < 6 then 40 else 60) := by
    by_cases q : i < 6
    · rw [if_pos q] at hj ⊢; exact J_in hj.1 hj.2 (by decide)
    · rw [if_neg q] at hj ⊢; exact J_in hj.1 hj.2 (by decide)
  have e : ((J j).toNatClampNeg : Int) = j := by rw [J_cl ⟨by omega, by (have := hj.2; split at this <;> omega)⟩]; omega
  refine va_iald (D := D.1) hx hb hK hP ((26 + i).toNat) 0 (gV_at (gI_20 hi)) rfl hin hd ?_
  have k1 := kk H locs ls hl hP hS
  have e2 : J (x 20 i ((J j).toNatClampNeg : Int)) = J (x 20 i j) := by rw [e]
  exact e2.symm ▸ k1
theorem gs_20 {Θ : gT} {l : Launch} {D : gD} {ad : gA} {cc : ByteArray} {own : String} {nL d pc : Nat} {lv : List (Nat × Value)} {st : List Value} {x : gX} {y : gY} {i : Int} {j a : Int} (F : gF Θ l D ad cc own nL d) (hi : 0 ≤ i ∧ i < 10) (hj : 0 ≤ j ∧ j < (if i < 6 then 40 else 60)) (hd : decode cc pc = .ok (.iastore, 1)) (kk : gW Θ l D ad nL (pc + 1) lv st (xU x 20 i j a) y) : gW Θ l D ad nL pc lv (.int (J a) :: .int (J j) :: .ref (ad 20 i) :: st) x y := by
  obtain ⟨p, e, R, s, m, args, below, meth, c, Q, A, H0, cells, slots⟩ := Θ
  obtain ⟨hx, hb, hml, ho, hts, hN, hK, hAp, hr1, hr2, hr3, hr4⟩ := F
  intro H locs ls hl hP hS
  have hin : vp_in (J j) (if i < 6 then 40 else 60) := by
    by_cases q : i < 6
    · rw [if_pos q] at hj ⊢; exact J_in hj.1 hj.2 (by decide)
    · rw [if_neg q] at hj ⊢; exact J_in hj.1 hj.2 (by decide)
  have e : ((J j).toNatClampNeg : Int) = j := by rw [J_cl ⟨by omega, by (have := hj.2; split at this <;> omega)⟩]; omega
  refine va_iast (D := D.1) hx hb hK hP (gAp_D hAp) hS ((26 + i).toNat) 0 (gV_at (gI_20 hi)) rfl hin hd (fun H locs hP _ hS => kk H locs ls hl ?_ hS)
  refine Eq.mp (congrArg (fun q => va_P D.1 vwCl q H) (gV_set (gI_20 hi) ?_)) hP
  intro k1 i1
  exact gE_s_20 e k1 i1
theorem gl_20 {Θ : gT} {l : Launch} {D : gD} {ad : gA} {cc : ByteArray} {own : String} {nL d pc : Nat} {lv : List (Nat × Value)} {st : List Value} {x : gX} {y : gY} {i : Int} (F : gF Θ l D ad cc own nL d) (hi : 0 ≤ i ∧ i < 10) (hd : decode cc pc = .ok (.arraylength, 1)) (kk : gW Θ l D ad nL (pc + 1) lv (.int (J (if i < 6 then 40 else 60)) :: st) x y) : gW Θ l D ad nL pc lv (.ref (ad 20 i) :: st) x y := by
  obtain ⟨p, e, R, s, m, args, below, meth, c, Q, A, H0, cells, slots⟩ := Θ
  obtain ⟨hx, hb, hml, ho, hts, hN, hK, hAp, hr1, hr2, hr3, hr4⟩ := F
  intro H locs ls hl hP hS
  exact va_alen (D := D.1) hx hb hK hP ((26 + i).toNat) 0 (gV_at (gI_20 hi)) rfl (by show Int32.ofNat (if i < 6 then 40 else 60) = _; split <;> rfl) hd (kk H locs ls hl hP hS)
theorem ga_21 {Θ : gT} {l : Launch} {D : gD} {ad : gA} {cc : ByteArray} {own : String} {nL d pc : Nat} {lv : List (Nat × Value)} {st : List Value} {x : gX} {y : gY} {i : Int} {j : Int} (F : gF Θ l D ad cc own nL d) (hi : 0 ≤ i ∧ i < 4) (hj : 0 ≤ j ∧ j < 40) (hd : decode cc pc = .ok (.iaload, 1)) (kk : gW Θ l D ad nL (pc + 1) lv (.int (J (x 21 i j)) :: st) x y) : gW Θ l D ad nL pc lv (.int (J j) :: .ref (ad 21 i) :: st) x y := by
  obtain ⟨p, e, R, s, m, args, below, meth, c, Q, A, H0, cells, slots⟩ := Θ
  obtain ⟨hx, hb, hml, ho, hts, hN, hK, hAp, hr1, hr2, hr3, hr4⟩ := F
  intro H locs ls hl hP hS
  have e : ((J j).toNatClampNeg : Int) = j := by rw [J_cl ⟨by omega, by omega⟩]; omega
  refine va_iald (D := D.1) hx hb hK hP ((36 + i).toNat) 0 (gV_at (gI_21 hi)) rfl (J_in hj.1 hj.2 (by decide)) hd ?_
  have k1 := kk H locs ls hl hP hS
  have e2 : J (x 21 i ((J j).toNatClampNeg : Int)) = J (x 21 i j) := by rw [e]
  exact e2.symm ▸ k1
theorem gs_21 {Θ : gT} {l : Launch} {D : gD} {ad : gA} {cc : ByteArray} {own : String} {nL d pc : Nat} {lv : List (Nat × Value)} {st : List Value} {x : gX} {y : gY} {i : Int} {j a : Int} (F : gF Θ l D ad cc own nL d) (hi : 0 ≤ i ∧ i < 4) (hj : 0 ≤ j ∧ j < 40) (hd : decode cc pc = .ok (.iastore, 1)) (kk : gW Θ l D ad nL (pc + 1) lv st (xU x 21 i j a) y) : gW Θ l D ad nL pc lv (.int (J a) :: .int (J j) :: .ref (ad 21 i) :: st) x y := by
  obtain ⟨p, e, R, s, m, args, below, meth, c, Q, A, H0, cells, slots⟩ := Θ
  obtain ⟨hx, hb, hml, ho, hts, hN, hK, hAp, hr1, hr2, hr3, hr4⟩ := F
  intro H locs ls hl hP hS
  have e : ((J j).toNatClampNeg : Int) = j := by rw [J_cl ⟨by omega, by omega⟩]; omega
  refine va_iast (D := D.1) hx hb hK hP (gAp_D hAp) hS ((36 + i).toNat) 0 (gV_at (gI_21 hi)) rfl (J_in hj.1 hj.2 (by decide)) hd (fun H locs hP _ hS => kk H locs ls hl ?_ hS)
  refine Eq.mp (congrArg (fun q => va_P D.1 vwCl q H) (gV_set (gI_21 hi) ?_)) hP
  intro k1 i1
  exact gE_s_21 e k1 i1
theorem gl_21 {Θ : gT} {l : Launch} {D : gD} {ad : gA} {cc : ByteArray} {own : String} {nL d pc : Nat} {lv : List (Nat × Value)} {st : List Value} {x : gX} {y : gY} {i : Int} (F : gF Θ l D ad cc own nL d) (hi : 0 ≤ i ∧ i < 4) (hd : decode cc pc = .ok (.arraylength, 1)) (kk : gW Θ l D ad nL (pc + 1) lv (.int (J (40)) :: st) x y) : gW Θ l D ad nL pc lv (.ref (ad 21 i) :: st) x y := by
  obtain ⟨p, e, R, s, m, args, below, meth, c, Q, A, H0, cells, slots⟩ := Θ
  obtain ⟨hx, hb, hml, ho, hts, hN, hK, hAp, hr1, hr2, hr3, hr4⟩ := F
  intro H locs ls hl hP hS
  exact va_alen (D := D.1) hx hb hK hP ((36 + i).toNat) 0 (gV_at (gI_21 hi)) rfl rfl hd (kk H locs ls hl hP hS)
theorem ga_22 {Θ : gT} {l : Launch} {D : gD} {ad : gA} {cc : ByteArray} {own : String} {nL d pc : Nat} {lv : List (Nat × Value)} {st : List Value} {x : gX} {y : gY} {i : Int} {j : Int} (F : gF Θ l D ad cc own nL d) (hi : 0 ≤ i ∧ i < 4) (hj : 0 ≤ j ∧ j < 40) (hd : decode cc pc = .ok (.iaload, 1)) (kk : gW Θ l D ad nL (pc + 1) lv (.int (J (x 22 i j)) :: st) x y) : gW Θ l D ad nL pc lv (.int (J j) :: .ref (ad 22 i) :: st) x y := by
  obtain ⟨p, e, R, s, m, args, below, meth, c, Q, A, H0, cells, slots⟩ := Θ
  obtain ⟨hx, hb, hml, ho, hts, hN, hK, hAp, hr1, hr2, hr3, hr4⟩ := F
  intro H locs ls hl hP hS
  have e : ((J j).toNatClampNeg : Int) = j := by rw [J_cl ⟨by omega, by omega⟩]; omega
  refine va_iald (D := D.1) hx hb hK hP ((40 + i).toNat) 0 (gV_at (gI_22 hi)) rfl (J_in hj.1 hj.2 (by decide)) hd ?_
  have k1 := kk H locs ls hl hP hS
  have e2 : J (x 22 i ((J j).toNatClampNeg : Int)) = J (x 22 i j) := by rw [e]
  exact e2.symm ▸ k1
theorem gs_22 {Θ : gT} {l : Launch} {D : gD} {ad : gA} {cc : ByteArray} {own : String} {nL d pc : Nat} {lv : List (Nat × Value)} {st : List Value} {x : gX} {y : gY} {i : Int} {j a : Int} (F : gF Θ l D ad cc own nL d) (hi : 0 ≤ i ∧ i < 4) (hj : 0 ≤ j ∧ j < 40) (hd : decode cc pc = .ok (.iastore, 1)) (kk : gW Θ l D ad nL (pc + 1) lv st (xU x 22 i j a) y) : gW Θ l D ad nL pc lv (.int (J a) :: .int (J j) :: .ref (ad 22 i) :: st) x y := by
  obtain ⟨p, e, R, s, m, args, below, meth, c, Q, A, H0, cells, slots⟩ := Θ
  obtain ⟨hx, hb, hml, ho, hts, hN, hK, hAp, hr1, hr2, hr3, hr4⟩ := F
  intro H locs ls hl hP hS
  have e : ((J j).toNatClampNeg : Int) = j := by rw [J_cl ⟨by omega, by omega⟩]; omega
  refine va_iast (D := D.1) hx hb hK hP (gAp_D hAp) hS ((40 + i).toNat) 0 (gV_at (gI_22 hi)) rfl (J_in hj.1 hj.2 (by decide)) hd (fun H locs hP _ hS => kk H locs ls hl ?_ hS)
  refine Eq.mp (congrArg (fun q => va_P D.1 vwCl q H) (gV_set (gI_22 hi) ?_)) hP
  intro k1 i1
  exact gE_s_22 e k1 i1
theorem gl_22 {Θ : gT} {l : Launch} {D : gD} {ad : gA} {cc : ByteArray} {own : String} {nL d pc : Nat} {lv : List (Nat × Value)} {st : List Value} {x : gX} {y : gY} {i : Int} (F : gF Θ l D ad cc own nL d) (hi : 0 ≤ i ∧ i < 4) (hd : decode cc pc = .ok (.arraylength, 1)) (kk : gW Θ l D ad nL (pc + 1) lv (.int (J (40)) :: st) x y) : gW Θ l D ad nL pc lv (.ref (ad 22 i) :: st) x y := by
  obtain ⟨p, e, R, s, m, args, below, meth, c, Q, A, H0, cells, slots⟩ := Θ
  obtain ⟨hx, hb, hml, ho, hts, hN, hK, hAp, hr1, hr2, hr3, hr4⟩ := F
  intro H locs ls hl hP hS
  exact va_alen (D := D.1) hx hb hK hP ((40 + i).toNat) 0 (gV_at (gI_22 hi)) rfl rfl hd (kk H locs ls hl hP hS)
theorem ga_23 {Θ : gT} {l : Launch} {D : gD} {ad : gA} {cc : ByteArray} {own : String} {nL d pc : Nat} {lv : List (Nat × Value)} {st : List Value} {x : gX} {y : gY} {j : Int} (F : gF Θ l D ad cc own nL d) (hj : 0 ≤ j ∧ j < 28) (hd : decode cc pc = .ok (.iaload, 1)) (kk : gW Θ l D ad nL (pc + 1) lv (.int (J (x 23 0 j)) :: st) x y) : gW Θ l D ad nL pc lv (.int (J j) :: .ref (ad 23 0) :: st) x y := by
  obtain ⟨p, e, R, s, m, args, below, meth, c, Q, A, H0, cells, slots⟩ := Θ
  obtain ⟨hx, hb, hml, ho, hts, hN, hK, hAp, hr1, hr2, hr3, hr4⟩ := F
  intro H locs ls hl hP hS
  have e : ((J j).toNatClampNeg : Int) = j := by rw [J_cl ⟨by omega, by omega⟩]; omega
  refine va_iald (D := D.1) hx hb hK hP (44) 0 (gV_at gI_23) rfl (J_in hj.1 hj.2 (by decide)) hd ?_
  have k1 := kk H locs ls hl hP hS
  have e2 : J (x 23 0 ((J j).toNatClampNeg : Int)) = J (x 23 0 j) := by rw [e]
  exact e2.symm ▸ k1
theorem gs_23 {Θ : gT} {l : Launch} {D : gD} {ad : gA} {cc : ByteArray} {own : String} {nL d pc : Nat} {lv : List (Nat × Value)} {st : List Value} {x : gX} {y : gY} {j a : Int} (F : gF Θ l D ad cc own nL d) (hj : 0 ≤ j ∧ j < 28) (hd : decode cc pc = .ok (.iastore, 1)) (kk : gW Θ l D ad nL (pc + 1) lv st (xU x 23 0 j a) y) : gW Θ l D ad nL pc lv (.int (J a) :: .int (J j) :: .ref (ad 23 0) :: st) x y := by
  obtain ⟨p, e, R, s, m, args, below, meth, c, Q, A, H0, cells, slots⟩ := Θ
  obtain ⟨hx, hb, hml, ho, hts, hN, hK, hAp, hr1, hr2, hr3, hr4⟩ := F
  intro H locs ls hl hP hS
  have e : ((J j).toNatClampNeg : Int) = j := by rw [J_cl ⟨by omega, by omega⟩]; omega
  refine va_iast (D := D.1) hx hb hK hP (gAp_D hAp) hS (44) 0 (gV_at gI_23) rfl (J_in hj.1 hj.2 (by decide)) hd (fun H locs hP _ hS => kk H locs ls hl ?_ hS)
  refine Eq.mp (congrArg (fun q => va_P D.1 vwCl q H) (gV_set gI_23 ?_)) hP
  intro k1 i1
  exact gE_s_23 e k1 i1
theorem gl_23 {Θ : gT} {l : Launch} {D : gD} {ad : gA} {cc : ByteArray} {own : String} {nL d pc : Nat} {lv : List (Nat × Value)} {st : List Value} {x : gX} {y : gY}  (F : gF Θ l D ad cc own nL d) (hd : decode cc pc = .ok (.arraylength, 1)) (kk : gW Θ l D ad nL (pc + 1) lv (.int (J (28)) :: st) x y) : gW Θ l D ad nL pc lv (.ref (ad 23 0) :: st) x y := by
  obtain ⟨p, e, R, s, m, args, below, meth, c, Q, A, H0, cells, slots⟩ := Θ
  obtain ⟨hx, hb, hml, ho, hts, hN, hK, hAp, hr1, hr2, hr3, hr4⟩ := F
  intro H locs ls hl hP hS
  exact va_alen (D := D.1) hx hb hK hP (44) 0 (gV_at gI_23) rfl rfl hd (kk H locs ls hl hP hS)
theorem ga_24 {Θ : gT} {l : Launch} {D : gD} {ad : gA} {cc : ByteArray} {own : String} {nL d pc : Nat} {lv : List (Nat × Value)} {st : List Value} {x : gX} {y : gY} {j : Int} (F : gF Θ l D ad cc own nL d) (hj : 0 ≤ j ∧ j < 6) (hd : decode cc pc = .ok (.iaload, 1)) (kk : gW Θ l D ad nL (pc + 1) lv (.int (J (x 24 0 j)) :: st) x y) : gW Θ l D ad nL pc lv (.int (J j) :: .ref (ad 24 0) :: st) x y := by
  obtain ⟨p, e, R, s, m, args, below, meth, c, Q, A, H0, cells, slots⟩ := Θ
  obtain ⟨hx, hb, hml, ho, hts, hN, hK, hAp, hr1, hr2, hr3, hr4⟩ := F
  intro H locs ls hl hP hS
  have e : ((J j).toNatClampNeg : Int) = j := by rw [J_cl ⟨by omega, by omega⟩]; omega
  refine va_iald (D := D.1) hx hb hK hP (45) 0 (gV_at gI_24) rfl (J_in hj.1 hj.2 (by decide)) hd ?_
  have k1 := kk H locs ls hl hP hS
  have e2 : J (x 24 0 ((J j).toNatClampNeg : Int)) = J (x 24 0 j) := by rw [e]
  exact e2.symm ▸ k1
theorem gs_24 {Θ : gT} {l : Launch} {D : gD} {ad : gA} {cc : ByteArray} {own : String} {nL d pc : Nat} {lv : List (Nat × Value)} {st : List Value} {x : gX} {y : gY} {j a : Int} (F : gF Θ l D ad cc own nL d) (hj : 0 ≤ j ∧ j < 6) (hd : decode cc pc = .ok (.iastore, 1)) (kk : gW Θ l D ad nL (pc + 1) lv st (xU x 24 0 j a) y) : gW Θ l D ad nL pc lv (.int (J a) :: .int (J j) :: .ref (ad 24 0) :: st) x y := by
  obtain ⟨p, e, R, s, m, args, below, meth, c, Q, A, H0, cells, slots⟩ := Θ
  obtain ⟨hx, hb, hml, ho, hts, hN, hK, hAp, hr1, hr2, hr3, hr4⟩ := F
  intro H locs ls hl hP hS
  have e : ((J j).toNatClampNeg : Int) = j := by rw [J_cl ⟨by omega, by omega⟩]; omega
  refine va_iast (D := D.1) hx hb hK hP (gAp_D hAp) hS (45) 0 (gV_at gI_24) rfl (J_in hj.1 hj.2 (by decide)) hd (fun H locs hP _ hS => kk H locs ls hl ?_ hS)
  refine Eq.mp (congrArg (fun q => va_P D.1 vwCl q H) (gV_set gI_24 ?_)) hP
  intro k1 i1
  exact gE_s_24 e k1 i1
theorem gl_24 {Θ : gT} {l : Launch} {D : gD} {ad : gA} {cc : ByteArray} {own : String} {nL d pc : Nat} {lv : List (Nat × Value)} {st : List Value} {x : gX} {y : gY}  (F : gF Θ l D ad cc own nL d) (hd : decode cc pc = .ok (.arraylength, 1)) (kk : gW Θ l D ad nL (pc + 1) lv (.int (J (6)) :: st) x y) : gW Θ l D ad nL pc lv (.ref (ad 24 0) :: st) x y := by
  obtain ⟨p, e, R, s, m, args, below, meth, c, Q, A, H0, cells, slots⟩ := Θ
  obtain ⟨hx, hb, hml, ho, hts, hN, hK, hAp, hr1, hr2, hr3, hr4⟩ := F
  intro H locs ls hl hP hS
  exact va_alen (D := D.1) hx hb hK hP (45) 0 (gV_at gI_24) rfl rfl hd (kk H locs ls hl hP hS)
theorem ga_25 {Θ : gT} {l : Launch} {D : gD} {ad : gA} {cc : ByteArray} {own : String} {nL d pc : Nat} {lv : List (Nat × Value)} {st : List Value} {x : gX} {y : gY} {i : Int} {j : Int} (F : gF Θ l D ad cc own nL d) (hi : 0 ≤ i ∧ i < 2) (hj : 0 ≤ j ∧ j < 31) (hd : decode cc pc = .ok (.iaload, 1)) (kk : gW Θ l D ad nL (pc + 1) lv (.int (J (x 25 i j)) :: st) x y) : gW Θ l D ad nL pc lv (.int (J j) :: .ref (ad 25 i) :: st) x y := by
  obtain ⟨p, e, R, s, m, args, below, meth, c, Q, A, H0, cells, slots⟩ := Θ
  obtain ⟨hx, hb, hml, ho, hts, hN, hK, hAp, hr1, hr2, hr3, hr4⟩ := F
  intro H locs ls hl hP hS
  have e : ((J j).toNatClampNeg : Int) = j := by rw [J_cl ⟨by omega, by omega⟩]; omega
  refine va_iald (D := D.1) hx hb hK hP ((46 + i).toNat) 0 (gV_at (gI_25 hi)) rfl (J_in hj.1 hj.2 (by decide)) hd ?_
  have k1 := kk H locs ls hl hP hS
  have e2 : J (x 25 i ((J j).toNatClampNeg : Int)) = J (x 25 i j) := by rw [e]
  exact e2.symm ▸ k1
theorem gs_25 {Θ : gT} {l : Launch} {D : gD} {ad : gA} {cc : ByteArray} {own : String} {nL d pc : Nat} {lv : List (Nat × Value)} {st : List Value} {x : gX} {y : gY} {i : Int} {j a : Int} (F : gF Θ l D ad cc own nL d) (hi : 0 ≤ i ∧ i < 2) (hj : 0 ≤ j ∧ j < 31) (hd : decode cc pc = .ok (.iastore, 1)) (kk : gW Θ l D ad nL (pc + 1) lv st (xU x 25 i j a) y) : gW Θ l D ad nL pc lv (.int (J a) :: .int (J j) :: .ref (ad 25 i) :: st) x y := by
  obtain ⟨p, e, R, s, m, args, below, meth, c, Q, A, H0, cells, slots⟩ := Θ
  obtain ⟨hx, hb, hml, ho, hts, hN, hK, hAp, hr1, hr2, hr3, hr4⟩ := F
  intro H locs ls hl hP hS
  have e : ((J j).toNatClampNeg : Int) = j := by rw [J_cl ⟨by omega, by omega⟩]; omega
  refine va_iast (D := D.1) hx hb hK hP (gAp_D hAp) hS ((46 + i).toNat) 0 (gV_at (gI_25 hi)) rfl (J_in hj.1 hj.2 (by decide)) hd (fun H locs hP _ hS => kk H locs ls hl ?_ hS)
  refine Eq.mp (congrArg (fun q => va_P D.1 vwCl q H) (gV_set (gI_25 hi) ?_)) hP
  intro k1 i1
  exact gE_s_25 e k1 i1
theorem gl_25 {Θ : gT} {l : Launch} {D : gD} {ad : gA} {cc : ByteArray} {own : String} {nL d pc : Nat} {lv : List (Nat × Value)} {st : List Value} {x : gX} {y : gY} {i : Int} (F : gF Θ l D ad cc own nL d) (hi : 0 ≤ i ∧ i < 2) (hd : decode cc pc = .ok (.arraylength, 1)) (kk : gW Θ l D ad nL (pc + 1) lv (.int (J (31)) :: st) x y) : gW Θ l D ad nL pc lv (.ref (ad 25 i) :: st) x y := by
  obtain ⟨p, e, R, s, m, args, below, meth, c, Q, A, H0, cells, slots⟩ := Θ
  obtain ⟨hx, hb, hml, ho, hts, hN, hK, hAp, hr1, hr2, hr3, hr4⟩ := F
  intro H locs ls hl hP hS
  exact va_alen (D := D.1) hx hb hK hP ((46 + i).toNat) 0 (gV_at (gI_25 hi)) rfl rfl hd (kk H locs ls hl hP hS)
theorem ga_26 {Θ : gT} {l : Launch} {D : gD} {ad : gA} {cc : ByteArray} {own : String} {nL d pc : Nat} {lv : List (Nat × Value)} {st : List Value} {x : gX} {y : gY} {j : Int} (F : gF Θ l D ad cc own nL d) (hj : 0 ≤ j ∧ j < 6) (hd : decode cc pc = .ok (.iaload, 1)) (kk : gW Θ l D ad nL (pc + 1) lv (.int (J (x 26 0 j)) :: st) x y) : gW Θ l D ad nL pc lv (.int (J j) :: .ref (ad 26 0) :: st) x y := by
  obtain ⟨p, e, R, s, m, args, below, meth, c, Q, A, H0, cells, slots⟩ := Θ
  obtain ⟨hx, hb, hml, ho, hts, hN, hK, hAp, hr1, hr2, hr3, hr4⟩ := F
  intro H locs ls hl hP hS
  have e : ((J j).toNatClampNeg : Int) = j := by rw [J_cl ⟨by omega, by omega⟩]; omega
  refine va_iald (D := D.1) hx hb hK hP (48) 0 (gV_at gI_26) rfl (J_in hj.1 hj.2 (by decide)) hd ?_
  have k1 := kk H locs ls hl hP hS
  have e2 : J (x 26 0 ((J j).toNatClampNeg : Int)) = J (x 26 0 j) := by rw [e]
  exact e2.symm ▸ k1
theorem gs_26 {Θ : gT} {l : Launch} {D : gD} {ad : gA} {cc : ByteArray} {own : String} {nL d pc : Nat} {lv : List (Nat × Value)} {st : List Value} {x : gX} {y : gY} {j a : Int} (F : gF Θ l D ad cc own nL d) (hj : 0 ≤ j ∧ j < 6) (hd : decode cc pc = .ok (.iastore, 1)) (kk : gW Θ l D ad nL (pc + 1) lv st (xU x 26 0 j a) y) : gW Θ l D ad nL pc lv (.int (J a) :: .int (J j) :: .ref (ad 26 0) :: st) x y := by
  obtain ⟨p, e, R, s, m, args, below, meth, c, Q, A, H0, cells, slots⟩ := Θ
  obtain ⟨hx, hb, hml, ho, hts, hN, hK, hAp, hr1, hr2, hr3, hr4⟩ := F
  intro H locs ls hl hP hS
  have e : ((J j).toNatClampNeg : Int) = j := by rw [J_cl ⟨by omega, by omega⟩]; omega
  refine va_iast (D := D.1) hx hb hK hP (gAp_D hAp) hS (48) 0 (gV_at gI_26) rfl (J_in hj.1 hj.2 (by decide)) hd (fun H locs hP _ hS => kk H locs ls hl ?_ hS)
  refine Eq.mp (congrArg (fun q => va_P D.1 vwCl q H) (gV_set gI_26 ?_)) hP
  intro k1 i1
  exact gE_s_26 e k1 i1
theorem gl_26 {Θ : gT} {l : Launch} {D : gD} {ad : gA} {cc : ByteArray} {own : String} {nL d pc : Nat} {lv : List (Nat × Value)} {st : List Value} {x : gX} {y : gY}  (F : gF Θ l D ad cc own nL d) (hd : decode cc pc = .ok (.arraylength, 1)) (kk : gW Θ l D ad nL (pc + 1) lv (.int (J (6)) :: st) x y) : gW Θ l D ad nL pc lv (.ref (ad 26 0) :: st) x y := by
  obtain ⟨p, e, R, s, m, args, below, meth, c, Q, A, H0, cells, slots⟩ := Θ
  obtain ⟨hx, hb, hml, ho, hts, hN, hK, hAp, hr1, hr2, hr3, hr4⟩ := F
  intro H locs ls hl hP hS
  exact va_alen (D := D.1) hx hb hK hP (48) 0 (gV_at gI_26) rfl rfl hd (kk H locs ls hl hP hS)
theorem ga_41 {Θ : gT} {l : Launch} {D : gD} {ad : gA} {cc : ByteArray} {own : String} {nL d pc : Nat} {lv : List (Nat × Value)} {st : List Value} {x : gX} {y : gY} {j : Int} (F : gF Θ l D ad cc own nL d) (hj : 0 ≤ j ∧ j < 29) (hd : decode cc pc = .ok (.iaload, 1)) (kk : gW Θ l D ad nL (pc + 1) lv (.int (J (y 41 j)) :: st) x y) : gW Θ l D ad nL pc lv (.int (J j) :: .ref (ad 41 0) :: st) x y := by
  obtain ⟨p, e, R, s, m, args, below, meth, c, Q, A, H0, cells, slots⟩ := Θ
  obtain ⟨hx, hb, hml, ho, hts, hN, hK, hAp, hr1, hr2, hr3, hr4⟩ := F
  intro H locs ls hl hP hS
  have e : ((J j).toNatClampNeg : Int) = j := by rw [J_cl ⟨by omega, by omega⟩]; omega
  refine va_iald (D := D.1) hx hb hK hP (53) 0 (gV_at gI_41) rfl (J_in hj.1 hj.2 (by decide)) hd ?_
  have k1 := kk H locs ls hl hP hS
  have e2 : J (y 41 ((J j).toNatClampNeg : Int)) = J (y 41 j) := by rw [e]
  exact e2.symm ▸ k1
theorem gs_41 {Θ : gT} {l : Launch} {D : gD} {ad : gA} {cc : ByteArray} {own : String} {nL d pc : Nat} {lv : List (Nat × Value)} {st : List Value} {x : gX} {y : gY} {j a : Int} (F : gF Θ l D ad cc own nL d) (hj : 0 ≤ j ∧ j < 29) (hd : decode cc pc = .ok (.iastore, 1)) (kk : gW Θ l D ad nL (pc + 1) lv st x (yU y 41 j a)) : gW Θ l D ad nL pc lv (.int (J a) :: .int (J j) :: .ref (ad 41 0) :: st) x y := by
  obtain ⟨p, e, R, s, m, args, below, meth, c, Q, A, H0, cells, slots⟩ := Θ
  obtain ⟨hx, hb, hml, ho, hts, hN, hK, hAp, hr1, hr2, hr3, hr4⟩ := F
  intro H locs ls hl hP hS
  have e : ((J j).toNatClampNeg : Int) = j := by rw [J_cl ⟨by omega, by omega⟩]; omega
  refine va_iast (D := D.1) hx hb hK hP (gAp_D hAp) hS (53) 0 (gV_at gI_41) rfl (J_in hj.1 hj.2 (by decide)) hd (fun H locs hP _ hS => kk H locs ls hl ?_ hS)
  refine Eq.mp (congrArg (fun q => va_P D.1 vwCl q H) (gV_set gI_41 ?_)) hP
  intro k1 i1
  exact gE_s_41 e k1 i1
theorem gl_41 {Θ : gT} {l : Launch} {D : gD} {ad : gA} {cc : ByteArray} {own : String} {nL d pc : Nat} {lv : List (Nat × Value)} {st : List Value} {x : gX} {y : gY}  (F : gF Θ l D ad cc own nL d) (hd : decode cc pc = .ok (.arraylength, 1)) (kk : gW Θ l D ad nL (pc + 1) lv (.int (J (29)) :: st) x y) : gW Θ l D ad nL pc lv (.ref (ad 41 0) :: st) x y := by
  obtain ⟨p, e, R, s, m, args, below, meth, c, Q, A, H0, cells, slots⟩ := Θ
  obtain ⟨hx, hb, hml, ho, hts, hN, hK, hAp, hr1, hr2, hr3, hr4⟩ := F
  intro H locs ls hl hP hS
  exact va_alen (D := D.1) hx hb hK hP (53) 0 (gV_at gI_41) rfl rfl hd (kk H locs ls hl hP hS)
theorem ga_42 {Θ : gT} {l : Launch} {D : gD} {ad : gA} {cc : ByteArray} {own : String} {nL d pc : Nat} {lv : List (Nat × Value)} {st : List Value} {x : gX} {y : gY} {j : Int} (F : gF Θ l D ad cc own nL d) (hj : 0 ≤ j ∧ j < 16) (hd : decode cc pc = .ok (.iaload, 1)) (kk : gW Θ l D ad nL (pc + 1) lv (.int (J (y 42 j)) :: st) x y) : gW Θ l D ad nL pc lv (.int (J j) :: .ref (ad 42 0) :: st) x y := by
  obtain ⟨p, e, R, s, m, args, below, meth, c, Q, A, H0, cells, slots⟩ := Θ
  obtain ⟨hx, hb, hml, ho, hts, hN, hK, hAp, hr1, hr2, hr3, hr4⟩ := F
  intro H locs ls hl hP hS
  have e : ((J j).toNatClampNeg : Int) = j := by rw [J_cl ⟨by omega, by omega⟩]; omega
  refine va_iald (D := D.1) hx hb hK hP (54) 0 (gV_at gI_42) rfl (J_in hj.1 hj.2 (by decide)) hd ?_
  have k1 := kk H locs ls hl hP hS
  have e2 : J (y 42 ((J j).toNatClampNeg : Int)) = J (y 42 j) := by rw [e]
  exact e2.symm ▸ k1
theorem gs_42 {Θ : gT} {l : Launch} {D : gD} {ad : gA} {cc : ByteArray} {own : String} {nL d pc : Nat} {lv : List (Nat × Value)} {st : List Value} {x : gX} {y : gY} {j a : Int} (F : gF Θ l D ad cc own nL d) (hj : 0 ≤ j ∧ j < 16) (hd : decode cc pc = .ok (.iastore, 1)) (kk : gW Θ l D ad nL (pc + 1) lv st x (yU y 42 j a)) : gW Θ l D ad nL pc lv (.int (J a) :: .int (J j) :: .ref (ad 42 0) :: st) x y := by
  obtain ⟨p, e, R, s, m, args, below, meth, c, Q, A, H0, cells, slots⟩ := Θ
  obtain ⟨hx, hb, hml, ho, hts, hN, hK, hAp, hr1, hr2, hr3, hr4⟩ := F
  intro H locs ls hl hP hS
  have e : ((J j).toNatClampNeg : Int) = j := by rw [J_cl ⟨by omega, by omega⟩]; omega
  refine va_iast (D := D.1) hx hb hK hP (gAp_D hAp) hS (54) 0 (gV_at gI_42) rfl (J_in hj.1 hj.2 (by decide)) hd (fun H locs hP _ hS => kk H locs ls hl ?_ hS)
  refine Eq.mp (congrArg (fun q => va_P D.1 vwCl q H) (gV_set gI_42 ?_)) hP
  intro k1 i1
  exact gE_s_42 e k1 i1
theorem gl_42 {Θ : gT} {l : Launch} {D : gD} {ad : gA} {cc : ByteArray} {own : String} {nL d pc : Nat} {lv : List (Nat × Value)} {st : List Value} {x : gX} {y : gY}  (F : gF Θ l D ad cc own nL d) (hd : decode cc pc = .ok (.arraylength, 1)) (kk : gW Θ l D ad nL (pc + 1) lv (.int (J (16)) :: st) x y) : gW Θ l D ad nL pc lv (.ref (ad 42 0) :: st) x y := by
  obtain ⟨p, e, R, s, m, args, below, meth, c, Q, A, H0, cells, slots⟩ := Θ
  obtain ⟨hx, hb, hml, ho, hts, hN, hK, hAp, hr1, hr2, hr3, hr4⟩ := F
  intro H locs ls hl hP hS
  exact va_alen (D := D.1) hx hb hK hP (54) 0 (gV_at gI_42) rfl rfl hd (kk H locs ls hl hP hS)
theorem ga_43 {Θ : gT} {l : Launch} {D : gD} {ad : gA} {cc : ByteArray} {own : String} {nL d pc : Nat} {lv : List (Nat × Value)} {st : List Value} {x : gX} {y : gY} {j : Int} (F : gF Θ l D ad cc own nL d) (hj : 0 ≤ j ∧ j < 6) (hd : decode cc pc = .ok (.iaload, 1)) (kk : gW Θ l D ad nL (pc + 1) lv (.int (J (y 43 j)) :: st) x y) : gW Θ l D ad nL pc lv (.int (J j) :: .ref (ad 43 0) :: st) x y := by
  obtain ⟨p, e, R, s, m, args, below, meth, c, Q, A, H0, cells, slots⟩ := Θ
  obtain ⟨hx, hb, hml, ho, hts, hN, hK, hAp, hr1, hr2, hr3, hr4⟩ := F
  intro H locs ls hl hP hS
  have e : ((J j).toNatClampNeg : Int) = j := by rw [J_cl ⟨by omega, by omega⟩]; omega
  refine va_iald (D := D.1) hx hb hK hP (55) 0 (gV_at gI_43) rfl (J_in hj.1 hj.2 (by decide)) hd ?_
  have k1 := kk H locs ls hl hP hS
  have e2 : J (y 43 ((J j).toNatClampNeg : Int)) = J (y 43 j) := by rw [e]
  exact e2.symm ▸ k1
theorem gs_43 {Θ : gT} {l : Launch} {D : gD} {ad : gA} {cc : ByteArray} {own : String} {nL d pc : Nat} {lv : List (Nat × Value)} {st : List Value} {x : gX} {y : gY} {j a : Int} (F : gF Θ l D ad cc own nL d) (hj : 0 ≤ j ∧ j < 6) (hd : decode cc pc = .ok (.iastore, 1)) (kk : gW Θ l D ad nL (pc + 1) lv st x (yU y 43 j a)) : gW Θ l D ad nL pc lv (.int (J a) :: .int (J j) :: .ref (ad 43 0) :: st) x y := by
  obtain ⟨p, e, R, s, m, args, below, meth, c, Q, A, H0, cells, slots⟩ := Θ
  obtain ⟨hx, hb, hml, ho, hts, hN, hK, hAp, hr1, hr2, hr3, hr4⟩ := F
  intro H locs ls hl hP hS
  have e : ((J j).toNatClampNeg : Int) = j := by rw [J_cl ⟨by omega, by omega⟩]; omega
  refine va_iast (D := D.1) hx hb hK hP (gAp_D hAp) hS (55) 0 (gV_at gI_43) rfl (J_in hj.1 hj.2 (by decide)) hd (fun H locs hP _ hS => kk H locs ls hl ?_ hS)
  refine Eq.mp (congrArg (fun q => va_P D.1 vwCl q H) (gV_set gI_43 ?_)) hP
  intro k1 i1
  exact gE_s_43 e k1 i1
theorem gl_43 {Θ : gT} {l : Launch} {D : gD} {ad : gA} {cc : ByteArray} {own : String} {nL d pc : Nat} {lv : List (Nat × Value)} {st : List Value} {x : gX} {y : gY}  (F : gF Θ l D ad cc own nL d) (hd : decode cc pc = .ok (.arraylength, 1)) (kk : gW Θ l D ad nL (pc + 1) lv (.int (J (6)) :: st) x y) : gW Θ l D ad nL pc lv (.ref (ad 43 0) :: st) x y := by
  obtain ⟨p, e, R, s, m, args, below, meth, c, Q, A, H0, cells, slots⟩ := Θ
  obtain ⟨hx, hb, hml, ho, hts, hN, hK, hAp, hr1, hr2, hr3, hr4⟩ := F
  intro H locs ls hl hP hS
  exact va_alen (D := D.1) hx hb hK hP (55) 0 (gV_at gI_43) rfl rfl hd (kk H locs ls hl hP hS)
theorem ga_30 {Θ : gT} {l : Launch} {D : gD} {ad : gA} {cc : ByteArray} {own : String} {nL d pc : Nat} {lv : List (Nat × Value)} {st : List Value} {x : gX} {y : gY} {j : Int} (F : gF Θ l D ad cc own nL d) (hj : 0 ≤ j ∧ j < 6) (hd : decode cc pc = .ok (.aaload, 1)) (kk : gW Θ l D ad nL (pc + 1) lv (.ref (ad 6 j) :: st) x y) : gW Θ l D ad nL pc lv (.int (J j) :: .ref (ad 30 0) :: st) x y := by
  obtain ⟨p, e, R, s, m, args, below, meth, c, Q, A, H0, cells, slots⟩ := Θ
  obtain ⟨hx, hb, hml, ho, hts, hN, hK, hAp, hr1, hr2, hr3, hr4⟩ := F
  intro H locs ls hl hP hS
  have e : ((J j).toNatClampNeg : Int) = j := by rw [J_cl ⟨by omega, by omega⟩]; omega
  refine va_aldq (D := D.1) (C := RX6) hx hb hK hP (49) 1 (gV_at gI_30) rfl (J_in hj.1 hj.2 (by decide)) hd ?_
  have k1 := kk H locs ls hl hP hS
  have e2 : ad 6 ((J j).toNatClampNeg : Int) = ad 6 j := by rw [e]
  rw [← e2] at k1
  exact k1
theorem gl_30 {Θ : gT} {l : Launch} {D : gD} {ad : gA} {cc : ByteArray} {own : String} {nL d pc : Nat} {lv : List (Nat × Value)} {st : List Value} {x : gX} {y : gY}  (F : gF Θ l D ad cc own nL d) (hd : decode cc pc = .ok (.arraylength, 1)) (kk : gW Θ l D ad nL (pc + 1) lv (.int (J 6) :: st) x y) : gW Θ l D ad nL pc lv (.ref (ad 30 0) :: st) x y := by
  obtain ⟨p, e, R, s, m, args, below, meth, c, Q, A, H0, cells, slots⟩ := Θ
  obtain ⟨hx, hb, hml, ho, hts, hN, hK, hAp, hr1, hr2, hr3, hr4⟩ := F
  intro H locs ls hl hP hS
  exact va_alen (D := D.1) hx hb hK hP (49) 1 (gV_at gI_30) rfl rfl hd (kk H locs ls hl hP hS)
theorem ga_31 {Θ : gT} {l : Launch} {D : gD} {ad : gA} {cc : ByteArray} {own : String} {nL d pc : Nat} {lv : List (Nat × Value)} {st : List Value} {x : gX} {y : gY} {j : Int} (F : gF Θ l D ad cc own nL d) (hj : 0 ≤ j ∧ j < 4) (hd : decode cc pc = .ok (.aaload, 1)) (kk : gW Θ l D ad nL (pc + 1) lv (.ref (ad 6 (6 + j)) :: st) x y) : gW Θ l D ad nL pc lv (.int (J j) :: .ref (ad 31 0) :: st) x y := by
  obtain ⟨p, e, R, s, m, args, below, meth, c, Q, A, H0, cells, slots⟩ := Θ
  obtain ⟨hx, hb, hml, ho, hts, hN, hK, hAp, hr1, hr2, hr3, hr4⟩ := F
  intro H locs ls hl hP hS
  have e : ((J j).toNatClampNeg : Int) = j := by rw [J_cl ⟨by omega, by omega⟩]; omega
  refine va_aldq (D := D.1) (C := RX6) hx hb hK hP (50) 1 (gV_at gI_31) rfl (J_in hj.1 hj.2 (by decide)) hd ?_
  have k1 := kk H locs ls hl hP hS
  have e2 : ad 6 (6 + ((J j).toNatClampNeg : Int)) = ad 6 (6 + j) := by rw [e]
  rw [← e2] at k1
  exact k1
theorem gl_31 {Θ : gT} {l : Launch} {D : gD} {ad : gA} {cc : ByteArray} {own : String} {nL d pc : Nat} {lv : List (Nat × Value)} {st : List Value} {x : gX} {y : gY}  (F : gF Θ l D ad cc own nL d) (hd : decode cc pc = .ok (.arraylength, 1)) (kk : gW Θ l D ad nL (pc + 1) lv (.int (J 4) :: st) x y) : gW Θ l D ad nL pc lv (.ref (ad 31 0) :: st) x y := by
  obtain ⟨p, e, R, s, m, args, below, meth, c, Q, A, H0, cells, slots⟩ := Θ
  obtain ⟨hx, hb, hml, ho, hts, hN, hK, hAp, hr1, hr2, hr3, hr4⟩ := F
  intro H locs ls hl hP hS
  exact va_alen (D := D.1) hx hb hK hP (50) 1 (gV_at gI_31) rfl rfl hd (kk H locs ls hl hP hS)
theorem ga_32 {Θ : gT} {l : Launch} {D : gD} {ad : gA} {cc : ByteArray} {own : String} {nL d pc : Nat} {lv : List (Nat × Value)} {st : List Value} {x : gX} {y : gY} {j : Int} (F : gF Θ l D ad cc own nL d) (hj : 0 ≤ j ∧ j < 6) (hd : decode cc pc = .ok (.aaload, 1)) (kk : gW Θ l D ad nL (pc + 1) lv (.ref (ad 3 j) :: st) x y) : gW Θ l D ad nL pc lv (.int (J j) :: .ref (ad 32 0) :: st) x y := by
  obtain ⟨p, e, R, s, m, args, below, meth, c, Q, A, H0, cells, slots⟩ := Θ
  obtain ⟨hx, hb, hml, ho, hts, hN, hK, hAp, hr1, hr2, hr3, hr4⟩ := F
  intro H locs ls hl hP hS
  have e : ((J j).toNatClampNeg : Int) = j := by rw [J_cl ⟨by omega, by omega⟩]; omega
  refine va_aldq (D := D.1) (C := RX3) hx hb hK hP (51) 2 (gV_at gI_32) rfl (J_in hj.1 hj.2 (by decide)) hd ?_
  have k1 := kk H locs ls hl hP hS
  have e2 : ad 3 ((J j).toNatClampNeg : Int) = ad 3 j := by rw [e]
  rw [← e2] at k1
  exact k1
theorem gl_32 {Θ : gT} {l : Launch} {D : gD} {ad : gA} {cc : ByteArray} {own : String} {nL d pc : Nat} {lv : List (Nat × Value)} {st : List Value} {x : gX} {y : gY}  (F : gF Θ l D ad cc own nL d) (hd : decode cc pc = .ok (.arraylength, 1)) (kk : gW Θ l D ad nL (pc + 1) lv (.int (J 6) :: st) x y) : gW Θ l D ad nL pc lv (.ref (ad 32 0) :: st) x y := by
  obtain ⟨p, e, R, s, m, args, below, meth, c, Q, A, H0, cells, slots⟩ := Θ
  obtain ⟨hx, hb, hml, ho, hts, hN, hK, hAp, hr1, hr2, hr3, hr4⟩ := F
  intro H locs ls hl hP hS
  exact va_alen (D := D.1) hx hb hK hP (51) 2 (gV_at gI_32) rfl rfl hd (kk H locs ls hl hP hS)
theorem ga_33 {Θ : gT} {l : Launch} {D : gD} {ad : gA} {cc : ByteArray} {own : String} {nL d pc : Nat} {lv : List (Nat × Value)} {st : List Value} {x : gX} {y : gY} {j : Int} (F : gF Θ l D ad cc own nL d) (hj : 0 ≤ j ∧ j < 3) (hd : decode cc pc = .ok (.aaload, 1)) (kk : gW Θ l D ad nL (pc + 1) lv (.ref (ad 1 (1 + j)) :: st) x y) : gW Θ l D ad nL pc lv (.int (J j) :: .ref (ad 33 0) :: st) x y := by
  obtain ⟨p, e, R, s, m, args, below, meth, c, Q, A, H0, cells, slots⟩ := Θ
  obtain ⟨hx, hb, hml, ho, hts, hN, hK, hAp, hr1, hr2, hr3, hr4⟩ := F
  intro H locs ls hl hP hS
  have e : ((J j).toNatClampNeg : Int) = j := by rw [J_cl ⟨by omega, by omega⟩]; omega
  refine va_aldq (D := D.1) (C := RX1) hx hb hK hP (52) 3 (gV_at gI_33) rfl (J_in hj.1 hj.2 (by decide)) hd ?_
  have k1 := kk H locs ls hl hP hS
  have e2 : ad 1 (1 + ((J j).toNatClampNeg : Int)) = ad 1 (1 + j) := by rw [e]
  rw [← e2] at k1
  exact k1
theorem gl_33 {Θ : gT} {l : Launch} {D : gD} {ad : gA} {cc : ByteArray} {own : String} {nL d pc : Nat} {lv : List (Nat × Value)} {st : List Value} {x : gX} {y : gY}  (F : gF Θ l D ad cc own nL d) (hd : decode cc pc = .ok (.arraylength, 1)) (kk : gW Θ l D ad nL (pc + 1) lv (.int (J 3) :: st) x y) : gW Θ l D ad nL pc lv (.ref (ad 33 0) :: st) x y := by
  obtain ⟨p, e, R, s, m, args, below, meth, c, Q, A, H0, cells, slots⟩ := Θ
  obtain ⟨hx, hb, hml, ho, hts, hN, hK, hAp, hr1, hr2, hr3, hr4⟩ := F
  intro H locs ls hl hP hS
  exact va_alen (D := D.1) hx hb hK hP (52) 3 (gV_at gI_33) rfl rfl hd (kk H locs ls hl hP hS)
