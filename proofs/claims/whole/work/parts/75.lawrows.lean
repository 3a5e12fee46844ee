/-! the law's own rows -/
def gScr (Θ : gT) (b L : Nat) (sc : Int → Int) : Prop :=
  match Θ with
  | (p, e, R, s, m, args, below, meth, c, Q, A, H0, cells, slots) => ∃ xs : Nat → Int32, va_X b L xs s H0 ∧ b < H0.size ∧ ¬ A b ∧ ∀ j : Int, sc j = (xs j.toNat).toInt
theorem sc_r {Θ : gT} {b L : Nat} {sc : Int → Int} (h : gScr Θ b L sc) (j : Int) : i32 (sc j) := by
  obtain ⟨p, e, R, s, m, args, below, meth, c, Q, A, H0, cells, slots⟩ := Θ
  obtain ⟨xs, -, -, -, h⟩ := h
  rw [h j]
  exact ⟨by have := Int32.le_toInt (xs j.toNat); omega, by have := Int32.toInt_lt (xs j.toNat); omega⟩
theorem g_sld {Θ : gT} {l : Launch} {D : gD} {ad : gA} {cc : ByteArray} {own : String} {nL d pc b L : Nat} {lv : List (Nat × Value)} {st : List Value} {x : gX} {y : gY} {sc : Int → Int} {j : Int} (F : gF Θ l D ad cc own nL d) (hX : gScr Θ b L sc) (hj : 0 ≤ j ∧ j < (L : Int)) (hL : L ≤ 3072) (hd : decode cc pc = .ok (.iaload, 1)) (kk : gW Θ l D ad nL (pc + 1) lv (.int (J (sc j)) :: st) x y) : gW Θ l D ad nL pc lv (.int (J j) :: .ref b :: st) x y := by
  obtain ⟨p, e, R, s, m, args, below, meth, c, Q, A, H0, cells, slots⟩ := Θ
  obtain ⟨hx, hb, hml, ho, hts, hN, hK, hAp, hr1, hr2, hr3, hr4⟩ := F
  obtain ⟨xs, hXs, hbl, hbA, hsc⟩ := hX
  intro H locs ls hl hP hS
  refine va_sld hx hb hXs hbl hbA hS (J_in hj.1 hj.2 (by omega)) hd ?_
  rw [J_cl ⟨by omega, by omega⟩, show xs j.toNat = J (sc j) by rw [hsc j]; exact (Int32.ofInt_toInt _).symm]
  exact kk H locs ls hl hP hS
theorem ofNat_J {L : Nat} (hL : L ≤ 3072) : Int32.ofNat L = J (L : Int) := by
  apply Int32.toInt_inj.mp
  rw [J_toInt ⟨by omega, by omega⟩]
  exact Int32.toInt_ofNat_of_lt (by omega)
theorem g_slen {Θ : gT} {l : Launch} {D : gD} {ad : gA} {cc : ByteArray} {own : String} {nL d pc b L : Nat} {lv : List (Nat × Value)} {st : List Value} {x : gX} {y : gY} {sc : Int → Int} (F : gF Θ l D ad cc own nL d) (hX : gScr Θ b L sc) (hL : L ≤ 3072) (hd : decode cc pc = .ok (.arraylength, 1)) (kk : gW Θ l D ad nL (pc + 1) lv (.int (J (L : Int)) :: st) x y) : gW Θ l D ad nL pc lv (.ref b :: st) x y := by
  obtain ⟨p, e, R, s, m, args, below, meth, c, Q, A, H0, cells, slots⟩ := Θ
  obtain ⟨hx, hb, hml, ho, hts, hN, hK, hAp, hr1, hr2, hr3, hr4⟩ := F
  obtain ⟨xs, hXs, hbl, hbA, hsc⟩ := hX
  intro H locs ls hl hP hS
  refine va_slen hx hb hXs hbl hbA hS hd ?_
  rw [ofNat_J hL]
  exact kk H locs ls hl hP hS
theorem g_same {Θ : gT} {l : Launch} {D : gD} {ad : gA} {cc : ByteArray} {own : String} {nL d pc : Nat} {lv : List (Nat × Value)} {st : List Value} {x : gX} {y : gY} {off : Int} {v : Int32} (tgt : Nat) (F : gF Θ l D ad cc own nL d) (hd : decode cc pc = .ok (.if_icmp .eq off, 3)) (ht : (pc : Int) + off = (tgt : Int)) (kk : gW Θ l D ad nL tgt lv st x y) : gW Θ l D ad nL pc lv (.int v :: .int v :: st) x y := by
  obtain ⟨p, e, R, s, m, args, below, meth, c, Q, A, H0, cells, slots⟩ := Θ
  obtain ⟨hx, hb, hml, ho, hts, hN, hK, hAp, hr1, hr2, hr3, hr4⟩ := F
  intro H locs ls hl hP hS
  exact lv_icmp_eq hx hb hd ht (fun _ => kk H locs ls hl hP hS) (fun h => absurd rfl h)
theorem lg_cmp_self (v : Int64) : lg_cmp v v = 0 := by simp [lg_cmp]
theorem g_sameL {Θ : gT} {l : Launch} {D : gD} {ad : gA} {cc : ByteArray} {own : String} {nL d pc : Nat} {lv : List (Nat × Value)} {st : List Value} {x : gX} {y : gY} {off : Int} {v : Int64} (tgt : Nat) (F : gF Θ l D ad cc own nL d) (hd0 : decode cc pc = .ok (.lcmp, 1)) (hd : decode cc (pc + 1) = .ok (.ifCond .eq off, 3)) (ht : ((pc + 1 : Nat) : Int) + off = (tgt : Int)) (kk : gW Θ l D ad nL tgt lv st x y) : gW Θ l D ad nL pc lv (.long v :: .long v :: st) x y := by
  obtain ⟨p, e, R, s, m, args, below, meth, c, Q, A, H0, cells, slots⟩ := Θ
  obtain ⟨hx, hb, hml, ho, hts, hN, hK, hAp, hr1, hr2, hr3, hr4⟩ := F
  intro H locs ls hl hP hS
  refine W.lcmp hx hb hd0 ?_
  rw [lg_cmp_self]
  exact lv_if_eq hx hb hd ht (fun _ => kk H locs ls hl hP hS) (fun h => absurd rfl h)
/-- the law's locals at the loop's head -/
abbrev lwL (ad : gA) (b : Nat) (i : Int) : List (Nat × Value) := [(3, .int (J i)), (2, .ref (ad 8 0)), (1, .ref (ad 7 0)), (0, .ref b)]
