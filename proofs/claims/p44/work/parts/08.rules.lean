/-! a state of a method over the memory: W at the frame with pc, locals lv, stack st, the memory x, y -/
abbrev gT : Type := Program × Env × Room × State × MethodId × Array Value × List Frame × Method × Code × (State → Prop) × (Nat → Prop) × Heap × Nat × Nat
def gP (D : gD) (ad : gA) (x : gX) (y : gY) (H : Heap) : Prop := va_P D.1 vwCl (gV D.2.1 D.2.2.1 D.2.2.2.1 D.2.2.2.2 ad x y) H
def gKn (D : gD) (U : State) : Prop := va_K D.1 vwCl (gTys D.2.1 D.2.2.1 D.2.2.2.1 D.2.2.2.2) U
def gW (Θ : gT) (l : Launch) (D : gD) (ad : gA) (nL pc : Nat) (lv : List (Nat × Value)) (st : List Value) (x : gX) (y : gY) : Prop :=
  match Θ with
  | (p, e, R, s, m, args, below, meth, c, Q, A, H0, cells, slots) => ∀ (H : Heap) (locs : List Loc) (ls : Array Slot), lv_has ls nL lv → gP D ad x y H → va_S A H0 H locs → W p l e R s m args below meth c H locs cells slots Q (F0 m pc ls st)
def gF (Θ : gT) (l : Launch) (D : gD) (ad : gA) (cc : ByteArray) (own : String) (nL d : Nat) : Prop :=
  match Θ with
  | (p, e, R, s, m, args, below, meth, c, Q, A, H0, cells, slots) => p.tables.exec = Jvm.exec ∧ c.code = cc ∧ c.maxLocals = nL ∧ s.vm.findClass own = some m.cls ∧ (∀ w ∈ wA, w.before args s = true) ∧ gNs s ∧ gKn D s ∧ gAp ad A ∧ d ≤ R.frames ∧ 64 * d ≤ R.locals ∧ cells ≤ R.cells ∧ slots ≤ R.slots
theorem gW_eq {Θ : gT} {l : Launch} {D : gD} {ad : gA} {nL pc pc' : Nat} {lv lv' : List (Nat × Value)} {st st' : List Value} {x x' : gX} {y y' : gY} (h : gW Θ l D ad nL pc' lv' st' x' y') (h1 : pc = pc') (h2 : lv = lv') (h3 : st = st') (h4 : x = x') (h5 : y = y') : gW Θ l D ad nL pc lv st x y := by subst h1; subst h2; subst h3; subst h4; subst h5; exact h
/-- fewer locals -/
theorem g_sub {Θ : gT} {l : Launch} {D : gD} {ad : gA} {nL pc : Nat} {lv lv' : List (Nat × Value)} {st : List Value} {x : gX} {y : gY} (ks : List Nat) (hl : lv_pick lv ks = lv') (h : gW Θ l D ad nL pc lv' st x y) : gW Θ l D ad nL pc lv st x y := by
  obtain ⟨p, e, R, s, m, args, below, meth, c, Q, A, H0, cells, slots⟩ := Θ
  intro H locs ls hh hP hS
  exact h H locs ls (lv_sub hh ks hl) hP hS
theorem g_iconst {Θ : gT} {l : Launch} {D : gD} {ad : gA} {cc : ByteArray} {own : String} {nL d pc : Nat} {lv : List (Nat × Value)} {st : List Value} {x : gX} {y : gY} {n : Int} (F : gF Θ l D ad cc own nL d) (hd : decode cc pc = .ok (.iconst n, 1)) (v : Int) (hv : Int32.ofInt n = J v) (kk : gW Θ l D ad nL (pc + 1) lv (.int (J v) :: st) x y) : gW Θ l D ad nL pc lv st x y := by
  obtain ⟨p, e, R, s, m, args, below, meth, c, Q, A, H0, cells, slots⟩ := Θ
  obtain ⟨hx, hb, hml, ho, hts, hN, hK, hAp, hr1, hr2, hr3, hr4⟩ := F
  intro H locs ls hl hP hS
  exact lv_iconst hx hb hd hv (kk H locs ls hl hP hS)
theorem g_bipush {Θ : gT} {l : Launch} {D : gD} {ad : gA} {cc : ByteArray} {own : String} {nL d pc : Nat} {lv : List (Nat × Value)} {st : List Value} {x : gX} {y : gY} {n : Int} (F : gF Θ l D ad cc own nL d) (hd : decode cc pc = .ok (.bipush n, 2)) (v : Int) (hv : (Int8.ofInt n).toInt32 = J v) (kk : gW Θ l D ad nL (pc + 2) lv (.int (J v) :: st) x y) : gW Θ l D ad nL pc lv st x y := by
  obtain ⟨p, e, R, s, m, args, below, meth, c, Q, A, H0, cells, slots⟩ := Θ
  obtain ⟨hx, hb, hml, ho, hts, hN, hK, hAp, hr1, hr2, hr3, hr4⟩ := F
  intro H locs ls hl hP hS
  exact lv_bipush hx hb hd hv (kk H locs ls hl hP hS)
theorem g_sipush {Θ : gT} {l : Launch} {D : gD} {ad : gA} {cc : ByteArray} {own : String} {nL d pc : Nat} {lv : List (Nat × Value)} {st : List Value} {x : gX} {y : gY} {n : Int} (F : gF Θ l D ad cc own nL d) (hd : decode cc pc = .ok (.sipush n, 3)) (v : Int) (hv : (Int16.ofInt n).toInt32 = J v) (kk : gW Θ l D ad nL (pc + 3) lv (.int (J v) :: st) x y) : gW Θ l D ad nL pc lv st x y := by
  obtain ⟨p, e, R, s, m, args, below, meth, c, Q, A, H0, cells, slots⟩ := Θ
  obtain ⟨hx, hb, hml, ho, hts, hN, hK, hAp, hr1, hr2, hr3, hr4⟩ := F
  intro H locs ls hl hP hS
  exact lv_sipush hx hb hd hv (kk H locs ls hl hP hS)
theorem g_lconst {Θ : gT} {l : Launch} {D : gD} {ad : gA} {cc : ByteArray} {own : String} {nL d pc : Nat} {lv : List (Nat × Value)} {st : List Value} {x : gX} {y : gY} {n : Fin 2} (F : gF Θ l D ad cc own nL d) (hd : decode cc pc = .ok (.lconst n, 1)) (v : Int) (hv : Int64.ofNat (n : Nat) = Lg v) (kk : gW Θ l D ad nL (pc + 1) lv (.long (Lg v) :: st) x y) : gW Θ l D ad nL pc lv st x y := by
  obtain ⟨p, e, R, s, m, args, below, meth, c, Q, A, H0, cells, slots⟩ := Θ
  obtain ⟨hx, hb, hml, ho, hts, hN, hK, hAp, hr1, hr2, hr3, hr4⟩ := F
  intro H locs ls hl hP hS
  exact lv_lconst hx hb hd hv (kk H locs ls hl hP hS)
theorem g_ldc {Θ : gT} {l : Launch} {D : gD} {ad : gA} {cc : ByteArray} {own : String} {nL d pc : Nat} {lv : List (Nat × Value)} {st : List Value} {x : gX} {y : gY} {i : Nat} {v : Int32} (F : gF Θ l D ad cc own nL d) (hw : Cond.constant own i v ∈ wA) (hd : decode cc pc = .ok (.ldc i, 2)) (v1 : Int) (hv : v = J v1) (kk : gW Θ l D ad nL (pc + 2) lv (.int (J v1) :: st) x y) : gW Θ l D ad nL pc lv st x y := by
  obtain ⟨p, e, R, s, m, args, below, meth, c, Q, A, H0, cells, slots⟩ := Θ
  obtain ⟨hx, hb, hml, ho, hts, hN, hK, hAp, hr1, hr2, hr3, hr4⟩ := F
  intro H locs ls hl hP hS
  subst hv
  exact lv_ldc hx hb ho (hts _ hw) hd (kk H locs ls hl hP hS)
theorem g_ldc_w {Θ : gT} {l : Launch} {D : gD} {ad : gA} {cc : ByteArray} {own : String} {nL d pc : Nat} {lv : List (Nat × Value)} {st : List Value} {x : gX} {y : gY} {i : Nat} {v : Int32} (F : gF Θ l D ad cc own nL d) (hw : Cond.constant own i v ∈ wA) (hd : decode cc pc = .ok (.ldc_w i, 3)) (v1 : Int) (hv : v = J v1) (kk : gW Θ l D ad nL (pc + 3) lv (.int (J v1) :: st) x y) : gW Θ l D ad nL pc lv st x y := by
  obtain ⟨p, e, R, s, m, args, below, meth, c, Q, A, H0, cells, slots⟩ := Θ
  obtain ⟨hx, hb, hml, ho, hts, hN, hK, hAp, hr1, hr2, hr3, hr4⟩ := F
  intro H locs ls hl hP hS
  subst hv
  exact lv_ldcw hx hb ho (hts _ hw) hd (kk H locs ls hl hP hS)
theorem g_ldc2 {Θ : gT} {l : Launch} {D : gD} {ad : gA} {cc : ByteArray} {own : String} {nL d pc : Nat} {lv : List (Nat × Value)} {st : List Value} {x : gX} {y : gY} {i : Nat} {v : Int64} (F : gF Θ l D ad cc own nL d) (hw : Cond.constantLong own i v ∈ wA) (hd : decode cc pc = .ok (.ldc2_w i, 3)) (v1 : Int) (hv : v = Lg v1) (kk : gW Θ l D ad nL (pc + 3) lv (.long (Lg v1) :: st) x y) : gW Θ l D ad nL pc lv st x y := by
  obtain ⟨p, e, R, s, m, args, below, meth, c, Q, A, H0, cells, slots⟩ := Θ
  obtain ⟨hx, hb, hml, ho, hts, hN, hK, hAp, hr1, hr2, hr3, hr4⟩ := F
  intro H locs ls hl hP hS
  subst hv
  exact lv_ldc2 hx hb ho (hts _ hw) hd (kk H locs ls hl hP hS)
theorem g_iload_n {Θ : gT} {l : Launch} {D : gD} {ad : gA} {cc : ByteArray} {own : String} {nL d pc : Nat} {lv : List (Nat × Value)} {st : List Value} {x : gX} {y : gY} {k : Fin 4} {i : Nat} {v : Int32} (F : gF Θ l D ad cc own nL d) (hd : decode cc pc = .ok (.iload_n k, 1)) (hi : (k : Nat) = i) (q : Nat) (hq : lv[q]? = some (i, .int v)) (kk : gW Θ l D ad nL (pc + 1) lv (.int v :: st) x y) : gW Θ l D ad nL pc lv st x y := by
  obtain ⟨p, e, R, s, m, args, below, meth, c, Q, A, H0, cells, slots⟩ := Θ
  obtain ⟨hx, hb, hml, ho, hts, hN, hK, hAp, hr1, hr2, hr3, hr4⟩ := F
  intro H locs ls hl hP hS
  exact lv_iload_n hx hb hd hi (lv_at hl q hq) (kk H locs ls hl hP hS)
theorem g_iload {Θ : gT} {l : Launch} {D : gD} {ad : gA} {cc : ByteArray} {own : String} {nL d pc : Nat} {lv : List (Nat × Value)} {st : List Value} {x : gX} {y : gY} {i : Nat} {v : Int32} (F : gF Θ l D ad cc own nL d) (hd : decode cc pc = .ok (.iload i, 2)) (q : Nat) (hq : lv[q]? = some (i, .int v)) (kk : gW Θ l D ad nL (pc + 2) lv (.int v :: st) x y) : gW Θ l D ad nL pc lv st x y := by
  obtain ⟨p, e, R, s, m, args, below, meth, c, Q, A, H0, cells, slots⟩ := Θ
  obtain ⟨hx, hb, hml, ho, hts, hN, hK, hAp, hr1, hr2, hr3, hr4⟩ := F
  intro H locs ls hl hP hS
  exact lv_iload hx hb hd (lv_at hl q hq) (kk H locs ls hl hP hS)
theorem g_istore_n {Θ : gT} {l : Launch} {D : gD} {ad : gA} {cc : ByteArray} {own : String} {nL d pc : Nat} {lv : List (Nat × Value)} {st : List Value} {x : gX} {y : gY} {k : Fin 4} {i : Nat} {v : Int32} (F : gF Θ l D ad cc own nL d) (lv1 : List (Nat × Value)) (hd : decode cc pc = .ok (.istore_n k, 1)) (hi : (k : Nat) = i) (hn : i < nL) (h1 : (i, Value.int v) :: lv.filter (fun q => !(q.1 == i) && !(q.1 + 1 == i && q.2.category == 2)) = lv1) (kk : gW Θ l D ad nL (pc + 1) lv1 st x y) : gW Θ l D ad nL pc lv (.int v :: st) x y := by
  obtain ⟨p, e, R, s, m, args, below, meth, c, Q, A, H0, cells, slots⟩ := Θ
  obtain ⟨hx, hb, hml, ho, hts, hN, hK, hAp, hr1, hr2, hr3, hr4⟩ := F
  intro H locs ls hl hP hS
  exact lv_istore_n hx hb hd hi hl hn h1 (fun ls hl => kk H locs ls hl hP hS)
theorem g_istore {Θ : gT} {l : Launch} {D : gD} {ad : gA} {cc : ByteArray} {own : String} {nL d pc : Nat} {lv : List (Nat × Value)} {st : List Value} {x : gX} {y : gY} {i : Nat} {v : Int32} (F : gF Θ l D ad cc own nL d) (lv1 : List (Nat × Value)) (hd : decode cc pc = .ok (.istore i, 2)) (hn : i < nL) (h1 : (i, Value.int v) :: lv.filter (fun q => !(q.1 == i) && !(q.1 + 1 == i && q.2.category == 2)) = lv1) (kk : gW Θ l D ad nL (pc + 2) lv1 st x y) : gW Θ l D ad nL pc lv (.int v :: st) x y := by
  obtain ⟨p, e, R, s, m, args, below, meth, c, Q, A, H0, cells, slots⟩ := Θ
  obtain ⟨hx, hb, hml, ho, hts, hN, hK, hAp, hr1, hr2, hr3, hr4⟩ := F
  intro H locs ls hl hP hS
  exact lv_istore hx hb hd hl hn h1 (fun ls hl => kk H locs ls hl hP hS)
theorem g_lload_n {Θ : gT} {l : Launch} {D : gD} {ad : gA} {cc : ByteArray} {own : String} {nL d pc : Nat} {lv : List (Nat × Value)} {st : List Value} {x : gX} {y : gY} {k : Fin 4} {i : Nat} {v : Int64} (F : gF Θ l D ad cc own nL d) (hd : decode cc pc = .ok (.lload_n k, 1)) (hi : (k : Nat) = i) (q : Nat) (hq : lv[q]? = some (i, .long v)) (kk : gW Θ l D ad nL (pc + 1) lv (.long v :: st) x y) : gW Θ l D ad nL pc lv st x y := by
  obtain ⟨p, e, R, s, m, args, below, meth, c, Q, A, H0, cells, slots⟩ := Θ
  obtain ⟨hx, hb, hml, ho, hts, hN, hK, hAp, hr1, hr2, hr3, hr4⟩ := F
  intro H locs ls hl hP hS
  exact lv_lload_n hx hb hd hi (lv_at hl q hq) (kk H locs ls hl hP hS)
theorem g_lload {Θ : gT} {l : Launch} {D : gD} {ad : gA} {cc : ByteArray} {own : String} {nL d pc : Nat} {lv : List (Nat × Value)} {st : List Value} {x : gX} {y : gY} {i : Nat} {v : Int64} (F : gF Θ l D ad cc own nL d) (hd : decode cc pc = .ok (.lload i, 2)) (q : Nat) (hq : lv[q]? = some (i, .long v)) (kk : gW Θ l D ad nL (pc + 2) lv (.long v :: st) x y) : gW Θ l D ad nL pc lv st x y := by
  obtain ⟨p, e, R, s, m, args, below, meth, c, Q, A, H0, cells, slots⟩ := Θ
  obtain ⟨hx, hb, hml, ho, hts, hN, hK, hAp, hr1, hr2, hr3, hr4⟩ := F
  intro H locs ls hl hP hS
  exact lv_lload hx hb hd (lv_at hl q hq) (kk H locs ls hl hP hS)
theorem g_lstore_n {Θ : gT} {l : Launch} {D : gD} {ad : gA} {cc : ByteArray} {own : String} {nL d pc : Nat} {lv : List (Nat × Value)} {st : List Value} {x : gX} {y : gY} {k : Fin 4} {i : Nat} {v : Int64} (F : gF Θ l D ad cc own nL d) (lv1 : List (Nat × Value)) (hd : decode cc pc = .ok (.lstore_n k, 1)) (hi : (k : Nat) = i) (hn : i + 1 < nL) (h1 : (i, Value.long v) :: lv.filter (fun q => !(q.1 == i) && (!(q.1 == i + 1) && !(q.1 + 1 == i && q.2.category == 2))) = lv1) (kk : gW Θ l D ad nL (pc + 1) lv1 st x y) : gW Θ l D ad nL pc lv (.long v :: st) x y := by
  obtain ⟨p, e, R, s, m, args, below, meth, c, Q, A, H0, cells, slots⟩ := Θ
  obtain ⟨hx, hb, hml, ho, hts, hN, hK, hAp, hr1, hr2, hr3, hr4⟩ := F
  intro H locs ls hl hP hS
  exact lv_lstore_n hx hb hd hi hl hn h1 (fun ls hl => kk H locs ls hl hP hS)
theorem g_lstore {Θ : gT} {l : Launch} {D : gD} {ad : gA} {cc : ByteArray} {own : String} {nL d pc : Nat} {lv : List (Nat × Value)} {st : List Value} {x : gX} {y : gY} {i : Nat} {v : Int64} (F : gF Θ l D ad cc own nL d) (lv1 : List (Nat × Value)) (hd : decode cc pc = .ok (.lstore i, 2)) (hn : i + 1 < nL) (h1 : (i, Value.long v) :: lv.filter (fun q => !(q.1 == i) && (!(q.1 == i + 1) && !(q.1 + 1 == i && q.2.category == 2))) = lv1) (kk : gW Θ l D ad nL (pc + 2) lv1 st x y) : gW Θ l D ad nL pc lv (.long v :: st) x y := by
  obtain ⟨p, e, R, s, m, args, below, meth, c, Q, A, H0, cells, slots⟩ := Θ
  obtain ⟨hx, hb, hml, ho, hts, hN, hK, hAp, hr1, hr2, hr3, hr4⟩ := F
  intro H locs ls hl hP hS
  exact lv_lstore hx hb hd hl hn h1 (fun ls hl => kk H locs ls hl hP hS)
theorem g_aload_n {Θ : gT} {l : Launch} {D : gD} {ad : gA} {cc : ByteArray} {own : String} {nL d pc : Nat} {lv : List (Nat × Value)} {st : List Value} {x : gX} {y : gY} {k : Fin 4} {i : Nat} {v : Nat} (F : gF Θ l D ad cc own nL d) (hd : decode cc pc = .ok (.aload_n k, 1)) (hi : (k : Nat) = i) (q : Nat) (hq : lv[q]? = some (i, .ref v)) (kk : gW Θ l D ad nL (pc + 1) lv (.ref v :: st) x y) : gW Θ l D ad nL pc lv st x y := by
  obtain ⟨p, e, R, s, m, args, below, meth, c, Q, A, H0, cells, slots⟩ := Θ
  obtain ⟨hx, hb, hml, ho, hts, hN, hK, hAp, hr1, hr2, hr3, hr4⟩ := F
  intro H locs ls hl hP hS
  exact lv_aload_n hx hb hd hi (lv_at hl q hq) (kk H locs ls hl hP hS)
theorem g_aload {Θ : gT} {l : Launch} {D : gD} {ad : gA} {cc : ByteArray} {own : String} {nL d pc : Nat} {lv : List (Nat × Value)} {st : List Value} {x : gX} {y : gY} {i : Nat} {v : Nat} (F : gF Θ l D ad cc own nL d) (hd : decode cc pc = .ok (.aload i, 2)) (q : Nat) (hq : lv[q]? = some (i, .ref v)) (kk : gW Θ l D ad nL (pc + 2) lv (.ref v :: st) x y) : gW Θ l D ad nL pc lv st x y := by
  obtain ⟨p, e, R, s, m, args, below, meth, c, Q, A, H0, cells, slots⟩ := Θ
  obtain ⟨hx, hb, hml, ho, hts, hN, hK, hAp, hr1, hr2, hr3, hr4⟩ := F
  intro H locs ls hl hP hS
  exact lv_aload hx hb hd (lv_at hl q hq) (kk H locs ls hl hP hS)
theorem g_astore_n {Θ : gT} {l : Launch} {D : gD} {ad : gA} {cc : ByteArray} {own : String} {nL d pc : Nat} {lv : List (Nat × Value)} {st : List Value} {x : gX} {y : gY} {k : Fin 4} {i : Nat} {v : Nat} (F : gF Θ l D ad cc own nL d) (lv1 : List (Nat × Value)) (hd : decode cc pc = .ok (.astore_n k, 1)) (hi : (k : Nat) = i) (hn : i < nL) (h1 : (i, Value.ref v) :: lv.filter (fun q => !(q.1 == i) && !(q.1 + 1 == i && q.2.category == 2)) = lv1) (kk : gW Θ l D ad nL (pc + 1) lv1 st x y) : gW Θ l D ad nL pc lv (.ref v :: st) x y := by
  obtain ⟨p, e, R, s, m, args, below, meth, c, Q, A, H0, cells, slots⟩ := Θ
  obtain ⟨hx, hb, hml, ho, hts, hN, hK, hAp, hr1, hr2, hr3, hr4⟩ := F
  intro H locs ls hl hP hS
  exact lv_astore_n hx hb hd hi hl hn h1 (fun ls hl => kk H locs ls hl hP hS)
theorem g_astore {Θ : gT} {l : Launch} {D : gD} {ad : gA} {cc : ByteArray} {own : String} {nL d pc : Nat} {lv : List (Nat × Value)} {st : List Value} {x : gX} {y : gY} {i : Nat} {v : Nat} (F : gF Θ l D ad cc own nL d) (lv1 : List (Nat × Value)) (hd : decode cc pc = .ok (.astore i, 2)) (hn : i < nL) (h1 : (i, Value.ref v) :: lv.filter (fun q => !(q.1 == i) && !(q.1 + 1 == i && q.2.category == 2)) = lv1) (kk : gW Θ l D ad nL (pc + 2) lv1 st x y) : gW Θ l D ad nL pc lv (.ref v :: st) x y := by
  obtain ⟨p, e, R, s, m, args, below, meth, c, Q, A, H0, cells, slots⟩ := Θ
  obtain ⟨hx, hb, hml, ho, hts, hN, hK, hAp, hr1, hr2, hr3, hr4⟩ := F
  intro H locs ls hl hP hS
  exact lv_astore hx hb hd hl hn h1 (fun ls hl => kk H locs ls hl hP hS)
theorem g_iinc {Θ : gT} {l : Launch} {D : gD} {ad : gA} {cc : ByteArray} {own : String} {nL d pc : Nat} {lv : List (Nat × Value)} {st : List Value} {x : gX} {y : gY} {i : Nat} {n a : Int} (F : gF Θ l D ad cc own nL d) (lv1 : List (Nat × Value)) (q : Nat) (hq : lv[q]? = some (i, .int (J a))) (hd : decode cc pc = .ok (.iinc i n, 3)) (hn : i < nL) (h1 : (i, Value.int (J (a + n))) :: lv.filter (fun q => !(q.1 == i) && !(q.1 + 1 == i && q.2.category == 2)) = lv1) (kk : gW Θ l D ad nL (pc + 3) lv1 st x y) : gW Θ l D ad nL pc lv st x y := by
  obtain ⟨p, e, R, s, m, args, below, meth, c, Q, A, H0, cells, slots⟩ := Θ
  obtain ⟨hx, hb, hml, ho, hts, hN, hK, hAp, hr1, hr2, hr3, hr4⟩ := F
  intro H locs ls hl hP hS
  exact lv_iinc hx hb hd hl hq (J_add a n) hn h1 (fun ls hl => kk H locs ls hl hP hS)
theorem g_dup {Θ : gT} {l : Launch} {D : gD} {ad : gA} {cc : ByteArray} {own : String} {nL d pc : Nat} {lv : List (Nat × Value)} {st : List Value} {x : gX} {y : gY} {v : Value} (F : gF Θ l D ad cc own nL d) (hd : decode cc pc = .ok (.dup, 1)) (hv : v.category = 1) (kk : gW Θ l D ad nL (pc + 1) lv (v :: v :: st) x y) : gW Θ l D ad nL pc lv (v :: st) x y := by
  obtain ⟨p, e, R, s, m, args, below, meth, c, Q, A, H0, cells, slots⟩ := Θ
  obtain ⟨hx, hb, hml, ho, hts, hN, hK, hAp, hr1, hr2, hr3, hr4⟩ := F
  intro H locs ls hl hP hS
  exact lv_dup hx hb hd hv (kk H locs ls hl hP hS)
theorem g_pop {Θ : gT} {l : Launch} {D : gD} {ad : gA} {cc : ByteArray} {own : String} {nL d pc : Nat} {lv : List (Nat × Value)} {st : List Value} {x : gX} {y : gY} {v : Value} (F : gF Θ l D ad cc own nL d) (hd : decode cc pc = .ok (.pop, 1)) (hv : v.category = 1) (kk : gW Θ l D ad nL (pc + 1) lv st x y) : gW Θ l D ad nL pc lv (v :: st) x y := by
  obtain ⟨p, e, R, s, m, args, below, meth, c, Q, A, H0, cells, slots⟩ := Θ
  obtain ⟨hx, hb, hml, ho, hts, hN, hK, hAp, hr1, hr2, hr3, hr4⟩ := F
  intro H locs ls hl hP hS
  exact lv_pop hx hb hd hv (kk H locs ls hl hP hS)
theorem g_dup2 {Θ : gT} {l : Launch} {D : gD} {ad : gA} {cc : ByteArray} {own : String} {nL d pc : Nat} {lv : List (Nat × Value)} {st : List Value} {x : gX} {y : gY} {v w : Value} (F : gF Θ l D ad cc own nL d) (hd : decode cc pc = .ok (.dup2, 1)) (hv : v.category = 1) (hw : w.category = 1) (kk : gW Θ l D ad nL (pc + 1) lv (v :: w :: v :: w :: st) x y) : gW Θ l D ad nL pc lv (v :: w :: st) x y := by
  obtain ⟨p, e, R, s, m, args, below, meth, c, Q, A, H0, cells, slots⟩ := Θ
  obtain ⟨hx, hb, hml, ho, hts, hN, hK, hAp, hr1, hr2, hr3, hr4⟩ := F
  intro H locs ls hl hP hS
  exact lv_dup2_11 hx hb hd hv hw (kk H locs ls hl hP hS)
theorem g_iadd {Θ : gT} {l : Launch} {D : gD} {ad : gA} {cc : ByteArray} {own : String} {nL d pc : Nat} {lv : List (Nat × Value)} {st : List Value} {x : gX} {y : gY} {a b : Int} (F : gF Θ l D ad cc own nL d) (hd : decode cc pc = .ok (.iadd, 1)) (kk : gW Θ l D ad nL (pc + 1) lv (.int (J (a + b)) :: st) x y) : gW Θ l D ad nL pc lv (.int (J b) :: .int (J a) :: st) x y := by
  obtain ⟨p, e, R, s, m, args, below, meth, c, Q, A, H0, cells, slots⟩ := Θ
  obtain ⟨hx, hb, hml, ho, hts, hN, hK, hAp, hr1, hr2, hr3, hr4⟩ := F
  intro H locs ls hl hP hS
  refine lv_iadd hx hb hd ?_
  rw [J_add]
  exact kk H locs ls hl hP hS
theorem g_isub {Θ : gT} {l : Launch} {D : gD} {ad : gA} {cc : ByteArray} {own : String} {nL d pc : Nat} {lv : List (Nat × Value)} {st : List Value} {x : gX} {y : gY} {a b : Int} (F : gF Θ l D ad cc own nL d) (hd : decode cc pc = .ok (.isub, 1)) (kk : gW Θ l D ad nL (pc + 1) lv (.int (J (a - b)) :: st) x y) : gW Θ l D ad nL pc lv (.int (J b) :: .int (J a) :: st) x y := by
  obtain ⟨p, e, R, s, m, args, below, meth, c, Q, A, H0, cells, slots⟩ := Θ
  obtain ⟨hx, hb, hml, ho, hts, hN, hK, hAp, hr1, hr2, hr3, hr4⟩ := F
  intro H locs ls hl hP hS
  refine lv_isub hx hb hd ?_
  rw [J_sub]
  exact kk H locs ls hl hP hS
theorem g_imul {Θ : gT} {l : Launch} {D : gD} {ad : gA} {cc : ByteArray} {own : String} {nL d pc : Nat} {lv : List (Nat × Value)} {st : List Value} {x : gX} {y : gY} {a b : Int} (F : gF Θ l D ad cc own nL d) (hd : decode cc pc = .ok (.imul, 1)) (kk : gW Θ l D ad nL (pc + 1) lv (.int (J (a * b)) :: st) x y) : gW Θ l D ad nL pc lv (.int (J b) :: .int (J a) :: st) x y := by
  obtain ⟨p, e, R, s, m, args, below, meth, c, Q, A, H0, cells, slots⟩ := Θ
  obtain ⟨hx, hb, hml, ho, hts, hN, hK, hAp, hr1, hr2, hr3, hr4⟩ := F
  intro H locs ls hl hP hS
  refine lv_imul hx hb hd ?_
  rw [J_mul]
  exact kk H locs ls hl hP hS
theorem g_ladd {Θ : gT} {l : Launch} {D : gD} {ad : gA} {cc : ByteArray} {own : String} {nL d pc : Nat} {lv : List (Nat × Value)} {st : List Value} {x : gX} {y : gY} {a b : Int} (F : gF Θ l D ad cc own nL d) (hd : decode cc pc = .ok (.ladd, 1)) (kk : gW Θ l D ad nL (pc + 1) lv (.long (Lg (a + b)) :: st) x y) : gW Θ l D ad nL pc lv (.long (Lg b) :: .long (Lg a) :: st) x y := by
  obtain ⟨p, e, R, s, m, args, below, meth, c, Q, A, H0, cells, slots⟩ := Θ
  obtain ⟨hx, hb, hml, ho, hts, hN, hK, hAp, hr1, hr2, hr3, hr4⟩ := F
  intro H locs ls hl hP hS
  refine lv_ladd hx hb hd ?_
  rw [Lg_add]
  exact kk H locs ls hl hP hS
theorem g_lsub {Θ : gT} {l : Launch} {D : gD} {ad : gA} {cc : ByteArray} {own : String} {nL d pc : Nat} {lv : List (Nat × Value)} {st : List Value} {x : gX} {y : gY} {a b : Int} (F : gF Θ l D ad cc own nL d) (hd : decode cc pc = .ok (.lsub, 1)) (kk : gW Θ l D ad nL (pc + 1) lv (.long (Lg (a - b)) :: st) x y) : gW Θ l D ad nL pc lv (.long (Lg b) :: .long (Lg a) :: st) x y := by
  obtain ⟨p, e, R, s, m, args, below, meth, c, Q, A, H0, cells, slots⟩ := Θ
  obtain ⟨hx, hb, hml, ho, hts, hN, hK, hAp, hr1, hr2, hr3, hr4⟩ := F
  intro H locs ls hl hP hS
  refine lv_lsub hx hb hd ?_
  rw [Lg_sub]
  exact kk H locs ls hl hP hS
theorem g_lmul {Θ : gT} {l : Launch} {D : gD} {ad : gA} {cc : ByteArray} {own : String} {nL d pc : Nat} {lv : List (Nat × Value)} {st : List Value} {x : gX} {y : gY} {a b : Int} (F : gF Θ l D ad cc own nL d) (hd : decode cc pc = .ok (.lmul, 1)) (kk : gW Θ l D ad nL (pc + 1) lv (.long (Lg (a * b)) :: st) x y) : gW Θ l D ad nL pc lv (.long (Lg b) :: .long (Lg a) :: st) x y := by
  obtain ⟨p, e, R, s, m, args, below, meth, c, Q, A, H0, cells, slots⟩ := Θ
  obtain ⟨hx, hb, hml, ho, hts, hN, hK, hAp, hr1, hr2, hr3, hr4⟩ := F
  intro H locs ls hl hP hS
  refine lv_lmul hx hb hd ?_
  rw [Lg_mul]
  exact kk H locs ls hl hP hS
theorem g_idiv {Θ : gT} {l : Launch} {D : gD} {ad : gA} {cc : ByteArray} {own : String} {nL d pc : Nat} {lv : List (Nat × Value)} {st : List Value} {x : gX} {y : gY} {a b : Int} (F : gF Θ l D ad cc own nL d) (hd : decode cc pc = .ok (.idiv, 1)) (ha : i32 a) (hb2 : i32 b) (hne : b ≠ 0) (kk : gW Θ l D ad nL (pc + 1) lv (.int (J (a.tdiv b)) :: st) x y) : gW Θ l D ad nL pc lv (.int (J b) :: .int (J a) :: st) x y := by
  obtain ⟨p, e, R, s, m, args, below, meth, c, Q, A, H0, cells, slots⟩ := Θ
  obtain ⟨hx, hb, hml, ho, hts, hN, hK, hAp, hr1, hr2, hr3, hr4⟩ := F
  intro H locs ls hl hP hS
  refine lv_idiv hx hb hd (by intro q; rw [J_0, J_eq hb2 ⟨by decide, by decide⟩] at q; exact hne q) ?_
  rw [J_tdiv ha hb2]
  exact kk H locs ls hl hP hS
theorem g_idivp {Θ : gT} {l : Launch} {D : gD} {ad : gA} {cc : ByteArray} {own : String} {nL d pc : Nat} {lv : List (Nat × Value)} {st : List Value} {x : gX} {y : gY} {a b : Int} (F : gF Θ l D ad cc own nL d) (hd : decode cc pc = .ok (.idiv, 1)) (ha : i32 a) (hb2 : i32 b) (h0 : 0 ≤ a) (hne : b ≠ 0) (kk : gW Θ l D ad nL (pc + 1) lv (.int (J (a / b)) :: st) x y) : gW Θ l D ad nL pc lv (.int (J b) :: .int (J a) :: st) x y := by
  obtain ⟨p, e, R, s, m, args, below, meth, c, Q, A, H0, cells, slots⟩ := Θ
  obtain ⟨hx, hb, hml, ho, hts, hN, hK, hAp, hr1, hr2, hr3, hr4⟩ := F
  intro H locs ls hl hP hS
  refine lv_idiv hx hb hd (by intro q; rw [J_0, J_eq hb2 ⟨by decide, by decide⟩] at q; exact hne q) ?_
  rw [J_tdiv ha hb2, Int.tdiv_eq_ediv_of_nonneg h0]
  exact kk H locs ls hl hP hS
theorem g_irem {Θ : gT} {l : Launch} {D : gD} {ad : gA} {cc : ByteArray} {own : String} {nL d pc : Nat} {lv : List (Nat × Value)} {st : List Value} {x : gX} {y : gY} {a b : Int} (F : gF Θ l D ad cc own nL d) (hd : decode cc pc = .ok (.irem, 1)) (ha : i32 a) (hb2 : i32 b) (hne : b ≠ 0) (kk : gW Θ l D ad nL (pc + 1) lv (.int (J (a.tmod b)) :: st) x y) : gW Θ l D ad nL pc lv (.int (J b) :: .int (J a) :: st) x y := by
  obtain ⟨p, e, R, s, m, args, below, meth, c, Q, A, H0, cells, slots⟩ := Θ
  obtain ⟨hx, hb, hml, ho, hts, hN, hK, hAp, hr1, hr2, hr3, hr4⟩ := F
  intro H locs ls hl hP hS
  refine lv_irem hx hb hd (by intro q; rw [J_0, J_eq hb2 ⟨by decide, by decide⟩] at q; exact hne q) ?_
  rw [J_tmod ha hb2]
  exact kk H locs ls hl hP hS
theorem g_iremp {Θ : gT} {l : Launch} {D : gD} {ad : gA} {cc : ByteArray} {own : String} {nL d pc : Nat} {lv : List (Nat × Value)} {st : List Value} {x : gX} {y : gY} {a b : Int} (F : gF Θ l D ad cc own nL d) (hd : decode cc pc = .ok (.irem, 1)) (ha : i32 a) (hb2 : i32 b) (h0 : 0 ≤ a) (hne : b ≠ 0) (kk : gW Θ l D ad nL (pc + 1) lv (.int (J (a % b)) :: st) x y) : gW Θ l D ad nL pc lv (.int (J b) :: .int (J a) :: st) x y := by
  obtain ⟨p, e, R, s, m, args, below, meth, c, Q, A, H0, cells, slots⟩ := Θ
  obtain ⟨hx, hb, hml, ho, hts, hN, hK, hAp, hr1, hr2, hr3, hr4⟩ := F
  intro H locs ls hl hP hS
  refine lv_irem hx hb hd (by intro q; rw [J_0, J_eq hb2 ⟨by decide, by decide⟩] at q; exact hne q) ?_
  rw [J_tmod ha hb2, Int.tmod_eq_emod_of_nonneg h0]
  exact kk H locs ls hl hP hS
theorem g_ldiv {Θ : gT} {l : Launch} {D : gD} {ad : gA} {cc : ByteArray} {own : String} {nL d pc : Nat} {lv : List (Nat × Value)} {st : List Value} {x : gX} {y : gY} {a b : Int} (F : gF Θ l D ad cc own nL d) (hd : decode cc pc = .ok (.ldiv, 1)) (ha : i64 a) (hb2 : i64 b) (hne : b ≠ 0) (kk : gW Θ l D ad nL (pc + 1) lv (.long (Lg (a.tdiv b)) :: st) x y) : gW Θ l D ad nL pc lv (.long (Lg b) :: .long (Lg a) :: st) x y := by
  obtain ⟨p, e, R, s, m, args, below, meth, c, Q, A, H0, cells, slots⟩ := Θ
  obtain ⟨hx, hb, hml, ho, hts, hN, hK, hAp, hr1, hr2, hr3, hr4⟩ := F
  intro H locs ls hl hP hS
  refine lv_ldiv hx hb hd (by intro q; rw [Lg_0, Lg_eq hb2 ⟨by decide, by decide⟩] at q; exact hne q) ?_
  rw [Lg_tdiv ha hb2]
  exact kk H locs ls hl hP hS
theorem g_ldivp {Θ : gT} {l : Launch} {D : gD} {ad : gA} {cc : ByteArray} {own : String} {nL d pc : Nat} {lv : List (Nat × Value)} {st : List Value} {x : gX} {y : gY} {a b : Int} (F : gF Θ l D ad cc own nL d) (hd : decode cc pc = .ok (.ldiv, 1)) (ha : i64 a) (hb2 : i64 b) (h0 : 0 ≤ a) (hne : b ≠ 0) (kk : gW Θ l D ad nL (pc + 1) lv (.long (Lg (a / b)) :: st) x y) : gW Θ l D ad nL pc lv (.long (Lg b) :: .long (Lg a) :: st) x y := by
  obtain ⟨p, e, R, s, m, args, below, meth, c, Q, A, H0, cells, slots⟩ := Θ
  obtain ⟨hx, hb, hml, ho, hts, hN, hK, hAp, hr1, hr2, hr3, hr4⟩ := F
  intro H locs ls hl hP hS
  refine lv_ldiv hx hb hd (by intro q; rw [Lg_0, Lg_eq hb2 ⟨by decide, by decide⟩] at q; exact hne q) ?_
  rw [Lg_tdiv ha hb2, Int.tdiv_eq_ediv_of_nonneg h0]
  exact kk H locs ls hl hP hS
theorem g_lrem {Θ : gT} {l : Launch} {D : gD} {ad : gA} {cc : ByteArray} {own : String} {nL d pc : Nat} {lv : List (Nat × Value)} {st : List Value} {x : gX} {y : gY} {a b : Int} (F : gF Θ l D ad cc own nL d) (hd : decode cc pc = .ok (.lrem, 1)) (ha : i64 a) (hb2 : i64 b) (hne : b ≠ 0) (kk : gW Θ l D ad nL (pc + 1) lv (.long (Lg (a.tmod b)) :: st) x y) : gW Θ l D ad nL pc lv (.long (Lg b) :: .long (Lg a) :: st) x y := by
  obtain ⟨p, e, R, s, m, args, below, meth, c, Q, A, H0, cells, slots⟩ := Θ
  obtain ⟨hx, hb, hml, ho, hts, hN, hK, hAp, hr1, hr2, hr3, hr4⟩ := F
  intro H locs ls hl hP hS
  refine lv_lrem hx hb hd (by intro q; rw [Lg_0, Lg_eq hb2 ⟨by decide, by decide⟩] at q; exact hne q) ?_
  rw [Lg_tmod ha hb2]
  exact kk H locs ls hl hP hS
theorem g_lremp {Θ : gT} {l : Launch} {D : gD} {ad : gA} {cc : ByteArray} {own : String} {nL d pc : Nat} {lv : List (Nat × Value)} {st : List Value} {x : gX} {y : gY} {a b : Int} (F : gF Θ l D ad cc own nL d) (hd : decode cc pc = .ok (.lrem, 1)) (ha : i64 a) (hb2 : i64 b) (h0 : 0 ≤ a) (hne : b ≠ 0) (kk : gW Θ l D ad nL (pc + 1) lv (.long (Lg (a % b)) :: st) x y) : gW Θ l D ad nL pc lv (.long (Lg b) :: .long (Lg a) :: st) x y := by
  obtain ⟨p, e, R, s, m, args, below, meth, c, Q, A, H0, cells, slots⟩ := Θ
  obtain ⟨hx, hb, hml, ho, hts, hN, hK, hAp, hr1, hr2, hr3, hr4⟩ := F
  intro H locs ls hl hP hS
  refine lv_lrem hx hb hd (by intro q; rw [Lg_0, Lg_eq hb2 ⟨by decide, by decide⟩] at q; exact hne q) ?_
  rw [Lg_tmod ha hb2, Int.tmod_eq_emod_of_nonneg h0]
  exact kk H locs ls hl hP hS
theorem g_iand {Θ : gT} {l : Launch} {D : gD} {ad : gA} {cc : ByteArray} {own : String} {nL d pc : Nat} {lv : List (Nat × Value)} {st : List Value} {x : gX} {y : gY} {a b : Int32} (F : gF Θ l D ad cc own nL d) (hd : decode cc pc = .ok (.iand, 1)) (v : Int) (hv : a &&& b = J v) (kk : gW Θ l D ad nL (pc + 1) lv (.int (J v) :: st) x y) : gW Θ l D ad nL pc lv (.int b :: .int a :: st) x y := by
  obtain ⟨p, e, R, s, m, args, below, meth, c, Q, A, H0, cells, slots⟩ := Θ
  obtain ⟨hx, hb, hml, ho, hts, hN, hK, hAp, hr1, hr2, hr3, hr4⟩ := F
  intro H locs ls hl hP hS
  refine lv_iand hx hb hd ?_
  rw [hv]
  exact kk H locs ls hl hP hS
theorem g_ior {Θ : gT} {l : Launch} {D : gD} {ad : gA} {cc : ByteArray} {own : String} {nL d pc : Nat} {lv : List (Nat × Value)} {st : List Value} {x : gX} {y : gY} {a b : Int32} (F : gF Θ l D ad cc own nL d) (hd : decode cc pc = .ok (.ior, 1)) (v : Int) (hv : a ||| b = J v) (kk : gW Θ l D ad nL (pc + 1) lv (.int (J v) :: st) x y) : gW Θ l D ad nL pc lv (.int b :: .int a :: st) x y := by
  obtain ⟨p, e, R, s, m, args, below, meth, c, Q, A, H0, cells, slots⟩ := Θ
  obtain ⟨hx, hb, hml, ho, hts, hN, hK, hAp, hr1, hr2, hr3, hr4⟩ := F
  intro H locs ls hl hP hS
  refine lv_ior hx hb hd ?_
  rw [hv]
  exact kk H locs ls hl hP hS
theorem g_ixor {Θ : gT} {l : Launch} {D : gD} {ad : gA} {cc : ByteArray} {own : String} {nL d pc : Nat} {lv : List (Nat × Value)} {st : List Value} {x : gX} {y : gY} {a b : Int32} (F : gF Θ l D ad cc own nL d) (hd : decode cc pc = .ok (.ixor, 1)) (v : Int) (hv : a ^^^ b = J v) (kk : gW Θ l D ad nL (pc + 1) lv (.int (J v) :: st) x y) : gW Θ l D ad nL pc lv (.int b :: .int a :: st) x y := by
  obtain ⟨p, e, R, s, m, args, below, meth, c, Q, A, H0, cells, slots⟩ := Θ
  obtain ⟨hx, hb, hml, ho, hts, hN, hK, hAp, hr1, hr2, hr3, hr4⟩ := F
  intro H locs ls hl hP hS
  refine lv_ixor hx hb hd ?_
  rw [hv]
  exact kk H locs ls hl hP hS
theorem g_ishl {Θ : gT} {l : Launch} {D : gD} {ad : gA} {cc : ByteArray} {own : String} {nL d pc : Nat} {lv : List (Nat × Value)} {st : List Value} {x : gX} {y : gY} {a b : Int32} (F : gF Θ l D ad cc own nL d) (hd : decode cc pc = .ok (.ishl, 1)) (v : Int) (hv : a <<< (b &&& 31) = J v) (kk : gW Θ l D ad nL (pc + 1) lv (.int (J v) :: st) x y) : gW Θ l D ad nL pc lv (.int b :: .int a :: st) x y := by
  obtain ⟨p, e, R, s, m, args, below, meth, c, Q, A, H0, cells, slots⟩ := Θ
  obtain ⟨hx, hb, hml, ho, hts, hN, hK, hAp, hr1, hr2, hr3, hr4⟩ := F
  intro H locs ls hl hP hS
  refine lv_ishl hx hb hd ?_
  rw [hv]
  exact kk H locs ls hl hP hS
theorem g_ishr {Θ : gT} {l : Launch} {D : gD} {ad : gA} {cc : ByteArray} {own : String} {nL d pc : Nat} {lv : List (Nat × Value)} {st : List Value} {x : gX} {y : gY} {a b : Int32} (F : gF Θ l D ad cc own nL d) (hd : decode cc pc = .ok (.ishr, 1)) (v : Int) (hv : a >>> (b &&& 31) = J v) (kk : gW Θ l D ad nL (pc + 1) lv (.int (J v) :: st) x y) : gW Θ l D ad nL pc lv (.int b :: .int a :: st) x y := by
  obtain ⟨p, e, R, s, m, args, below, meth, c, Q, A, H0, cells, slots⟩ := Θ
  obtain ⟨hx, hb, hml, ho, hts, hN, hK, hAp, hr1, hr2, hr3, hr4⟩ := F
  intro H locs ls hl hP hS
  refine lv_ishr hx hb hd ?_
  rw [hv]
  exact kk H locs ls hl hP hS
theorem g_i2l {Θ : gT} {l : Launch} {D : gD} {ad : gA} {cc : ByteArray} {own : String} {nL d pc : Nat} {lv : List (Nat × Value)} {st : List Value} {x : gX} {y : gY} {a : Int} (F : gF Θ l D ad cc own nL d) (hd : decode cc pc = .ok (.i2l, 1)) (ha : i32 a) (kk : gW Θ l D ad nL (pc + 1) lv (.long (Lg a) :: st) x y) : gW Θ l D ad nL pc lv (.int (J a) :: st) x y := by
  obtain ⟨p, e, R, s, m, args, below, meth, c, Q, A, H0, cells, slots⟩ := Θ
  obtain ⟨hx, hb, hml, ho, hts, hN, hK, hAp, hr1, hr2, hr3, hr4⟩ := F
  intro H locs ls hl hP hS
  exact lv_i2l hx hb hd (J_long ha) (kk H locs ls hl hP hS)
theorem g_l2i {Θ : gT} {l : Launch} {D : gD} {ad : gA} {cc : ByteArray} {own : String} {nL d pc : Nat} {lv : List (Nat × Value)} {st : List Value} {x : gX} {y : gY} {a : Int} (F : gF Θ l D ad cc own nL d) (hd : decode cc pc = .ok (.l2i, 1)) (kk : gW Θ l D ad nL (pc + 1) lv (.int (J a) :: st) x y) : gW Θ l D ad nL pc lv (.long (Lg a) :: st) x y := by
  obtain ⟨p, e, R, s, m, args, below, meth, c, Q, A, H0, cells, slots⟩ := Θ
  obtain ⟨hx, hb, hml, ho, hts, hN, hK, hAp, hr1, hr2, hr3, hr4⟩ := F
  intro H locs ls hl hP hS
  exact lv_l2i hx hb hd (Lg_int a) (kk H locs ls hl hP hS)
theorem g_i2b {Θ : gT} {l : Launch} {D : gD} {ad : gA} {cc : ByteArray} {own : String} {nL d pc : Nat} {lv : List (Nat × Value)} {st : List Value} {x : gX} {y : gY} {a : Int} (F : gF Θ l D ad cc own nL d) (hd : decode cc pc = .ok (.i2b, 1)) (ha : i32 a) (kk : gW Θ l D ad nL (pc + 1) lv (.int (J (cb a)) :: st) x y) : gW Θ l D ad nL pc lv (.int (J a) :: st) x y := by
  obtain ⟨p, e, R, s, m, args, below, meth, c, Q, A, H0, cells, slots⟩ := Θ
  obtain ⟨hx, hb, hml, ho, hts, hN, hK, hAp, hr1, hr2, hr3, hr4⟩ := F
  intro H locs ls hl hP hS
  exact lv_i2b hx hb hd (J_byte ha) (kk H locs ls hl hP hS)
theorem g_icmp_eq {Θ : gT} {l : Launch} {D : gD} {ad : gA} {cc : ByteArray} {own : String} {nL d pc : Nat} {lv : List (Nat × Value)} {st : List Value} {x : gX} {y : gY} {off : Int} {a b : Int} (tgt : Nat) (F : gF Θ l D ad cc own nL d) (hd : decode cc pc = .ok (.if_icmp .eq off, 3)) (ha : i32 a) (hb2 : i32 b) (ht : (pc : Int) + off = (tgt : Int)) (kt : a = b → gW Θ l D ad nL tgt lv st x y) (kf : a ≠ b → gW Θ l D ad nL (pc + 3) lv st x y) : gW Θ l D ad nL pc lv (.int (J b) :: .int (J a) :: st) x y := by
  obtain ⟨p, e, R, s, m, args, below, meth, c, Q, A, H0, cells, slots⟩ := Θ
  obtain ⟨hx, hb, hml, ho, hts, hN, hK, hAp, hr1, hr2, hr3, hr4⟩ := F
  intro H locs ls hl hP hS
  exact lv_icmp_eq hx hb hd ht (fun h => kt ((J_eq ha hb2).mp h) H locs ls hl hP hS) (fun h => kf (fun q => h ((J_eq ha hb2).mpr q)) H locs ls hl hP hS)
theorem g_if_eq {Θ : gT} {l : Launch} {D : gD} {ad : gA} {cc : ByteArray} {own : String} {nL d pc : Nat} {lv : List (Nat × Value)} {st : List Value} {x : gX} {y : gY} {off : Int} {a : Int} (tgt : Nat) (F : gF Θ l D ad cc own nL d) (hd : decode cc pc = .ok (.ifCond .eq off, 3)) (ha : i32 a) (ht : (pc : Int) + off = (tgt : Int)) (kt : a = 0 → gW Θ l D ad nL tgt lv st x y) (kf : a ≠ 0 → gW Θ l D ad nL (pc + 3) lv st x y) : gW Θ l D ad nL pc lv (.int (J a) :: st) x y := by
  obtain ⟨p, e, R, s, m, args, below, meth, c, Q, A, H0, cells, slots⟩ := Θ
  obtain ⟨hx, hb, hml, ho, hts, hN, hK, hAp, hr1, hr2, hr3, hr4⟩ := F
  intro H locs ls hl hP hS
  have z0 : i32 0 := ⟨by decide, by decide⟩
  exact lv_if_eq hx hb hd ht (fun h => by rw [J_0] at h; exact kt ((J_eq ha z0).mp h) H locs ls hl hP hS) (fun h => by rw [J_0] at h; exact kf (fun q => h ((J_eq ha z0).mpr q)) H locs ls hl hP hS)
theorem g_icmp_ne {Θ : gT} {l : Launch} {D : gD} {ad : gA} {cc : ByteArray} {own : String} {nL d pc : Nat} {lv : List (Nat × Value)} {st : List Value} {x : gX} {y : gY} {off : Int} {a b : Int} (tgt : Nat) (F : gF Θ l D ad cc own nL d) (hd : decode cc pc = .ok (.if_icmp .ne off, 3)) (ha : i32 a) (hb2 : i32 b) (ht : (pc : Int) + off = (tgt : Int)) (kt : a ≠ b → gW Θ l D ad nL tgt lv st x y) (kf : a = b → gW Θ l D ad nL (pc + 3) lv st x y) : gW Θ l D ad nL pc lv (.int (J b) :: .int (J a) :: st) x y := by
  obtain ⟨p, e, R, s, m, args, below, meth, c, Q, A, H0, cells, slots⟩ := Θ
  obtain ⟨hx, hb, hml, ho, hts, hN, hK, hAp, hr1, hr2, hr3, hr4⟩ := F
  intro H locs ls hl hP hS
  exact lv_icmp_ne hx hb hd ht (fun h => kt (fun q => h ((J_eq ha hb2).mpr q)) H locs ls hl hP hS) (fun h => kf ((J_eq ha hb2).mp h) H locs ls hl hP hS)
theorem g_if_ne {Θ : gT} {l : Launch} {D : gD} {ad : gA} {cc : ByteArray} {own : String} {nL d pc : Nat} {lv : List (Nat × Value)} {st : List Value} {x : gX} {y : gY} {off : Int} {a : Int} (tgt : Nat) (F : gF Θ l D ad cc own nL d) (hd : decode cc pc = .ok (.ifCond .ne off, 3)) (ha : i32 a) (ht : (pc : Int) + off = (tgt : Int)) (kt : a ≠ 0 → gW Θ l D ad nL tgt lv st x y) (kf : a = 0 → gW Θ l D ad nL (pc + 3) lv st x y) : gW Θ l D ad nL pc lv (.int (J a) :: st) x y := by
  obtain ⟨p, e, R, s, m, args, below, meth, c, Q, A, H0, cells, slots⟩ := Θ
  obtain ⟨hx, hb, hml, ho, hts, hN, hK, hAp, hr1, hr2, hr3, hr4⟩ := F
  intro H locs ls hl hP hS
  have z0 : i32 0 := ⟨by decide, by decide⟩
  exact lv_if_ne hx hb hd ht (fun h => by rw [J_0] at h; exact kt (fun q => h ((J_eq ha z0).mpr q)) H locs ls hl hP hS) (fun h => by rw [J_0] at h; exact kf ((J_eq ha z0).mp h) H locs ls hl hP hS)
theorem g_icmp_lt {Θ : gT} {l : Launch} {D : gD} {ad : gA} {cc : ByteArray} {own : String} {nL d pc : Nat} {lv : List (Nat × Value)} {st : List Value} {x : gX} {y : gY} {off : Int} {a b : Int} (tgt : Nat) (F : gF Θ l D ad cc own nL d) (hd : decode cc pc = .ok (.if_icmp .lt off, 3)) (ha : i32 a) (hb2 : i32 b) (ht : (pc : Int) + off = (tgt : Int)) (kt : a < b → gW Θ l D ad nL tgt lv st x y) (kf : b ≤ a → gW Θ l D ad nL (pc + 3) lv st x y) : gW Θ l D ad nL pc lv (.int (J b) :: .int (J a) :: st) x y := by
  obtain ⟨p, e, R, s, m, args, below, meth, c, Q, A, H0, cells, slots⟩ := Θ
  obtain ⟨hx, hb, hml, ho, hts, hN, hK, hAp, hr1, hr2, hr3, hr4⟩ := F
  intro H locs ls hl hP hS
  exact lv_icmp_lt hx hb hd ht (fun h => kt ((J_lt ha hb2).mp h) H locs ls hl hP hS) (fun h => kf (Int.not_lt.mp (fun q => h ((J_lt ha hb2).mpr q))) H locs ls hl hP hS)
theorem g_if_lt {Θ : gT} {l : Launch} {D : gD} {ad : gA} {cc : ByteArray} {own : String} {nL d pc : Nat} {lv : List (Nat × Value)} {st : List Value} {x : gX} {y : gY} {off : Int} {a : Int} (tgt : Nat) (F : gF Θ l D ad cc own nL d) (hd : decode cc pc = .ok (.ifCond .lt off, 3)) (ha : i32 a) (ht : (pc : Int) + off = (tgt : Int)) (kt : a < 0 → gW Θ l D ad nL tgt lv st x y) (kf : 0 ≤ a → gW Θ l D ad nL (pc + 3) lv st x y) : gW Θ l D ad nL pc lv (.int (J a) :: st) x y := by
  obtain ⟨p, e, R, s, m, args, below, meth, c, Q, A, H0, cells, slots⟩ := Θ
  obtain ⟨hx, hb, hml, ho, hts, hN, hK, hAp, hr1, hr2, hr3, hr4⟩ := F
  intro H locs ls hl hP hS
  have z0 : i32 0 := ⟨by decide, by decide⟩
  exact lv_if_lt hx hb hd ht (fun h => by rw [J_0] at h; exact kt ((J_lt ha z0).mp h) H locs ls hl hP hS) (fun h => by rw [J_0] at h; exact kf (Int.not_lt.mp (fun q => h ((J_lt ha z0).mpr q))) H locs ls hl hP hS)
theorem g_icmp_ge {Θ : gT} {l : Launch} {D : gD} {ad : gA} {cc : ByteArray} {own : String} {nL d pc : Nat} {lv : List (Nat × Value)} {st : List Value} {x : gX} {y : gY} {off : Int} {a b : Int} (tgt : Nat) (F : gF Θ l D ad cc own nL d) (hd : decode cc pc = .ok (.if_icmp .ge off, 3)) (ha : i32 a) (hb2 : i32 b) (ht : (pc : Int) + off = (tgt : Int)) (kt : b ≤ a → gW Θ l D ad nL tgt lv st x y) (kf : a < b → gW Θ l D ad nL (pc + 3) lv st x y) : gW Θ l D ad nL pc lv (.int (J b) :: .int (J a) :: st) x y := by
  obtain ⟨p, e, R, s, m, args, below, meth, c, Q, A, H0, cells, slots⟩ := Θ
  obtain ⟨hx, hb, hml, ho, hts, hN, hK, hAp, hr1, hr2, hr3, hr4⟩ := F
  intro H locs ls hl hP hS
  exact lv_icmp_ge hx hb hd ht (fun h => kt ((J_le hb2 ha).mp h) H locs ls hl hP hS) (fun h => kf (Int.not_le.mp (fun q => h ((J_le hb2 ha).mpr q))) H locs ls hl hP hS)
theorem g_if_ge {Θ : gT} {l : Launch} {D : gD} {ad : gA} {cc : ByteArray} {own : String} {nL d pc : Nat} {lv : List (Nat × Value)} {st : List Value} {x : gX} {y : gY} {off : Int} {a : Int} (tgt : Nat) (F : gF Θ l D ad cc own nL d) (hd : decode cc pc = .ok (.ifCond .ge off, 3)) (ha : i32 a) (ht : (pc : Int) + off = (tgt : Int)) (kt : 0 ≤ a → gW Θ l D ad nL tgt lv st x y) (kf : a < 0 → gW Θ l D ad nL (pc + 3) lv st x y) : gW Θ l D ad nL pc lv (.int (J a) :: st) x y := by
  obtain ⟨p, e, R, s, m, args, below, meth, c, Q, A, H0, cells, slots⟩ := Θ
  obtain ⟨hx, hb, hml, ho, hts, hN, hK, hAp, hr1, hr2, hr3, hr4⟩ := F
  intro H locs ls hl hP hS
  have z0 : i32 0 := ⟨by decide, by decide⟩
  exact lv_if_ge hx hb hd ht (fun h => by rw [J_0] at h; exact kt ((J_le z0 ha).mp h) H locs ls hl hP hS) (fun h => by rw [J_0] at h; exact kf (Int.not_le.mp (fun q => h ((J_le z0 ha).mpr q))) H locs ls hl hP hS)
theorem g_icmp_gt {Θ : gT} {l : Launch} {D : gD} {ad : gA} {cc : ByteArray} {own : String} {nL d pc : Nat} {lv : List (Nat × Value)} {st : List Value} {x : gX} {y : gY} {off : Int} {a b : Int} (tgt : Nat) (F : gF Θ l D ad cc own nL d) (hd : decode cc pc = .ok (.if_icmp .gt off, 3)) (ha : i32 a) (hb2 : i32 b) (ht : (pc : Int) + off = (tgt : Int)) (kt : b < a → gW Θ l D ad nL tgt lv st x y) (kf : a ≤ b → gW Θ l D ad nL (pc + 3) lv st x y) : gW Θ l D ad nL pc lv (.int (J b) :: .int (J a) :: st) x y := by
  obtain ⟨p, e, R, s, m, args, below, meth, c, Q, A, H0, cells, slots⟩ := Θ
  obtain ⟨hx, hb, hml, ho, hts, hN, hK, hAp, hr1, hr2, hr3, hr4⟩ := F
  intro H locs ls hl hP hS
  exact lv_icmp_gt hx hb hd ht (fun h => kt ((J_lt hb2 ha).mp h) H locs ls hl hP hS) (fun h => kf (Int.not_lt.mp (fun q => h ((J_lt hb2 ha).mpr q))) H locs ls hl hP hS)
theorem g_if_gt {Θ : gT} {l : Launch} {D : gD} {ad : gA} {cc : ByteArray} {own : String} {nL d pc : Nat} {lv : List (Nat × Value)} {st : List Value} {x : gX} {y : gY} {off : Int} {a : Int} (tgt : Nat) (F : gF Θ l D ad cc own nL d) (hd : decode cc pc = .ok (.ifCond .gt off, 3)) (ha : i32 a) (ht : (pc : Int) + off = (tgt : Int)) (kt : 0 < a → gW Θ l D ad nL tgt lv st x y) (kf : a ≤ 0 → gW Θ l D ad nL (pc + 3) lv st x y) : gW Θ l D ad nL pc lv (.int (J a) :: st) x y := by
  obtain ⟨p, e, R, s, m, args, below, meth, c, Q, A, H0, cells, slots⟩ := Θ
  obtain ⟨hx, hb, hml, ho, hts, hN, hK, hAp, hr1, hr2, hr3, hr4⟩ := F
  intro H locs ls hl hP hS
  have z0 : i32 0 := ⟨by decide, by decide⟩
  exact lv_if_gt hx hb hd ht (fun h => by rw [J_0] at h; exact kt ((J_lt z0 ha).mp h) H locs ls hl hP hS) (fun h => by rw [J_0] at h; exact kf (Int.not_lt.mp (fun q => h ((J_lt z0 ha).mpr q))) H locs ls hl hP hS)
theorem g_icmp_le {Θ : gT} {l : Launch} {D : gD} {ad : gA} {cc : ByteArray} {own : String} {nL d pc : Nat} {lv : List (Nat × Value)} {st : List Value} {x : gX} {y : gY} {off : Int} {a b : Int} (tgt : Nat) (F : gF Θ l D ad cc own nL d) (hd : decode cc pc = .ok (.if_icmp .le off, 3)) (ha : i32 a) (hb2 : i32 b) (ht : (pc : Int) + off = (tgt : Int)) (kt : a ≤ b → gW Θ l D ad nL tgt lv st x y) (kf : b < a → gW Θ l D ad nL (pc + 3) lv st x y) : gW Θ l D ad nL pc lv (.int (J b) :: .int (J a) :: st) x y := by
  obtain ⟨p, e, R, s, m, args, below, meth, c, Q, A, H0, cells, slots⟩ := Θ
  obtain ⟨hx, hb, hml, ho, hts, hN, hK, hAp, hr1, hr2, hr3, hr4⟩ := F
  intro H locs ls hl hP hS
  exact lv_icmp_le hx hb hd ht (fun h => kt ((J_le ha hb2).mp h) H locs ls hl hP hS) (fun h => kf (Int.not_le.mp (fun q => h ((J_le ha hb2).mpr q))) H locs ls hl hP hS)
theorem g_if_le {Θ : gT} {l : Launch} {D : gD} {ad : gA} {cc : ByteArray} {own : String} {nL d pc : Nat} {lv : List (Nat × Value)} {st : List Value} {x : gX} {y : gY} {off : Int} {a : Int} (tgt : Nat) (F : gF Θ l D ad cc own nL d) (hd : decode cc pc = .ok (.ifCond .le off, 3)) (ha : i32 a) (ht : (pc : Int) + off = (tgt : Int)) (kt : a ≤ 0 → gW Θ l D ad nL tgt lv st x y) (kf : 0 < a → gW Θ l D ad nL (pc + 3) lv st x y) : gW Θ l D ad nL pc lv (.int (J a) :: st) x y := by
  obtain ⟨p, e, R, s, m, args, below, meth, c, Q, A, H0, cells, slots⟩ := Θ
  obtain ⟨hx, hb, hml, ho, hts, hN, hK, hAp, hr1, hr2, hr3, hr4⟩ := F
  intro H locs ls hl hP hS
  have z0 : i32 0 := ⟨by decide, by decide⟩
  exact lv_if_le hx hb hd ht (fun h => by rw [J_0] at h; exact kt ((J_le ha z0).mp h) H locs ls hl hP hS) (fun h => by rw [J_0] at h; exact kf (Int.not_le.mp (fun q => h ((J_le ha z0).mpr q))) H locs ls hl hP hS)
theorem J_b0 {c : Prop} [Decidable c] : (J (if c then 1 else 0) = 0) ↔ ¬ c := by by_cases h : c <;> simp [h] <;> decide +kernel
theorem g_ifb_eq {Θ : gT} {l : Launch} {D : gD} {ad : gA} {cc : ByteArray} {own : String} {nL d pc : Nat} {lv : List (Nat × Value)} {st : List Value} {x : gX} {y : gY} {off : Int} {c0 : Prop} [Decidable c0] (tgt : Nat) (F : gF Θ l D ad cc own nL d) (hd : decode cc pc = .ok (.ifCond .eq off, 3)) (ht : (pc : Int) + off = (tgt : Int)) (kt : ¬ c0 → gW Θ l D ad nL tgt lv st x y) (kf : c0 → gW Θ l D ad nL (pc + 3) lv st x y) : gW Θ l D ad nL pc lv (.int (J (if c0 then 1 else 0)) :: st) x y := by
  obtain ⟨p, e, R, s, m, args, below, meth, c, Q, A, H0, cells, slots⟩ := Θ
  obtain ⟨hx, hb, hml, ho, hts, hN, hK, hAp, hr1, hr2, hr3, hr4⟩ := F
  intro H locs ls hl hP hS
  exact lv_if_eq hx hb hd ht (fun h => kt (J_b0.mp h) H locs ls hl hP hS) (fun h => kf (Decidable.not_not.mp (fun q => h (J_b0.mpr q))) H locs ls hl hP hS)
theorem g_ifb_ne {Θ : gT} {l : Launch} {D : gD} {ad : gA} {cc : ByteArray} {own : String} {nL d pc : Nat} {lv : List (Nat × Value)} {st : List Value} {x : gX} {y : gY} {off : Int} {c0 : Prop} [Decidable c0] (tgt : Nat) (F : gF Θ l D ad cc own nL d) (hd : decode cc pc = .ok (.ifCond .ne off, 3)) (ht : (pc : Int) + off = (tgt : Int)) (kt : c0 → gW Θ l D ad nL tgt lv st x y) (kf : ¬ c0 → gW Θ l D ad nL (pc + 3) lv st x y) : gW Θ l D ad nL pc lv (.int (J (if c0 then 1 else 0)) :: st) x y := by
  obtain ⟨p, e, R, s, m, args, below, meth, c, Q, A, H0, cells, slots⟩ := Θ
  obtain ⟨hx, hb, hml, ho, hts, hN, hK, hAp, hr1, hr2, hr3, hr4⟩ := F
  intro H locs ls hl hP hS
  exact lv_if_ne hx hb hd ht (fun h => kt (Decidable.not_not.mp (fun q => h (J_b0.mpr q))) H locs ls hl hP hS) (fun h => kf (J_b0.mp h) H locs ls hl hP hS)
theorem lg_cmp_J {a b : Int} (ha : i64 a) (hb : i64 b) : lg_cmp (Lg a) (Lg b) = J (if b < a then 1 else if a = b then 0 else -1) := by
  unfold lg_cmp
  by_cases h1 : b < a
  · rw [if_pos h1, if_pos ((Lg_lt hb ha).mpr h1)]; rfl
  · rw [if_neg h1, if_neg (fun q => h1 ((Lg_lt hb ha).mp q))]
    by_cases h2 : a = b
    · rw [if_pos h2]; first | (rw [if_pos ((Lg_eq ha hb).mpr h2)]; rfl) | (simp [h2]; done) | (rw [if_pos (by simp [h2])]; rfl)
    · rw [if_neg h2]; first | (rw [if_neg (fun q => h2 ((Lg_eq ha hb).mp q))]; rfl) | (simp [h2, Lg_eq ha hb]; done) | (rw [if_neg (by simp [h2, Lg_eq ha hb])]; rfl)
theorem g_lcmp_eq {Θ : gT} {l : Launch} {D : gD} {ad : gA} {cc : ByteArray} {own : String} {nL d pc : Nat} {lv : List (Nat × Value)} {st : List Value} {x : gX} {y : gY} {off : Int} {a b : Int} (tgt : Nat) (F : gF Θ l D ad cc own nL d) (hd0 : decode cc pc = .ok (.lcmp, 1)) (hd : decode cc (pc + 1) = .ok (.ifCond .eq off, 3)) (ha : i64 a) (hb2 : i64 b) (ht : ((pc + 1 : Nat) : Int) + off = (tgt : Int)) (kt : a = b → gW Θ l D ad nL tgt lv st x y) (kf : a ≠ b → gW Θ l D ad nL (pc + 1 + 3) lv st x y) : gW Θ l D ad nL pc lv (.long (Lg b) :: .long (Lg a) :: st) x y := by
  obtain ⟨p, e, R, s, m, args, below, meth, c, Q, A, H0, cells, slots⟩ := Θ
  obtain ⟨hx, hb, hml, ho, hts, hN, hK, hAp, hr1, hr2, hr3, hr4⟩ := F
  intro H locs ls hl hP hS
  refine W.lcmp hx hb hd0 ?_
  rw [lg_cmp_J ha hb2]
  have z0 : i32 0 := ⟨by decide, by decide⟩
  have z1 : i32 (if b < a then 1 else if a = b then 0 else -1) := by split <;> (try split) <;> exact ⟨by decide, by decide⟩
  refine lv_if_eq hx hb hd ht (fun h => ?_) (fun h => ?_)
  · rw [J_0] at h
    have h9 := (J_eq z1 z0).mp h
    exact kt (by split at h9 <;> (try split at h9) <;> omega) H locs ls hl hP hS
  · rw [J_0] at h
    have h9 : ¬ ((if b < a then (1 : Int) else if a = b then 0 else -1) = 0) := fun q => h ((J_eq z1 z0).mpr q)
    exact kf (by intro q; exact h9 (by rw [if_neg (by omega), if_pos q])) H locs ls hl hP hS
theorem g_lcmp_ne {Θ : gT} {l : Launch} {D : gD} {ad : gA} {cc : ByteArray} {own : String} {nL d pc : Nat} {lv : List (Nat × Value)} {st : List Value} {x : gX} {y : gY} {off : Int} {a b : Int} (tgt : Nat) (F : gF Θ l D ad cc own nL d) (hd0 : decode cc pc = .ok (.lcmp, 1)) (hd : decode cc (pc + 1) = .ok (.ifCond .ne off, 3)) (ha : i64 a) (hb2 : i64 b) (ht : ((pc + 1 : Nat) : Int) + off = (tgt : Int)) (kt : a ≠ b → gW Θ l D ad nL tgt lv st x y) (kf : a = b → gW Θ l D ad nL (pc + 1 + 3) lv st x y) : gW Θ l D ad nL pc lv (.long (Lg b) :: .long (Lg a) :: st) x y := by
  obtain ⟨p, e, R, s, m, args, below, meth, c, Q, A, H0, cells, slots⟩ := Θ
  obtain ⟨hx, hb, hml, ho, hts, hN, hK, hAp, hr1, hr2, hr3, hr4⟩ := F
  intro H locs ls hl hP hS
  refine W.lcmp hx hb hd0 ?_
  rw [lg_cmp_J ha hb2]
  have z0 : i32 0 := ⟨by decide, by decide⟩
  have z1 : i32 (if b < a then 1 else if a = b then 0 else -1) := by split <;> (try split) <;> exact ⟨by decide, by decide⟩
  refine lv_if_ne hx hb hd ht (fun h => ?_) (fun h => ?_)
  · rw [J_0] at h
    have h9 : ¬ ((if b < a then (1 : Int) else if a = b then 0 else -1) = 0) := fun q => h ((J_eq z1 z0).mpr q)
    exact kt (by intro q; exact h9 (by rw [if_neg (by omega), if_pos q])) H locs ls hl hP hS
  · rw [J_0] at h
    have h9 := (J_eq z1 z0).mp h
    exact kf (by split at h9 <;> (try split at h9) <;> omega) H locs ls hl hP hS
theorem g_lcmp_lt {Θ : gT} {l : Launch} {D : gD} {ad : gA} {cc : ByteArray} {own : String} {nL d pc : Nat} {lv : List (Nat × Value)} {st : List Value} {x : gX} {y : gY} {off : Int} {a b : Int} (tgt : Nat) (F : gF Θ l D ad cc own nL d) (hd0 : decode cc pc = .ok (.lcmp, 1)) (hd : decode cc (pc + 1) = .ok (.ifCond .lt off, 3)) (ha : i64 a) (hb2 : i64 b) (ht : ((pc + 1 : Nat) : Int) + off = (tgt : Int)) (kt : a < b → gW Θ l D ad nL tgt lv st x y) (kf : b ≤ a → gW Θ l D ad nL (pc + 1 + 3) lv st x y) : gW Θ l D ad nL pc lv (.long (Lg b) :: .long (Lg a) :: st) x y := by
  obtain ⟨p, e, R, s, m, args, below, meth, c, Q, A, H0, cells, slots⟩ := Θ
  obtain ⟨hx, hb, hml, ho, hts, hN, hK, hAp, hr1, hr2, hr3, hr4⟩ := F
  intro H locs ls hl hP hS
  refine W.lcmp hx hb hd0 ?_
  rw [lg_cmp_J ha hb2]
  have z0 : i32 0 := ⟨by decide, by decide⟩
  have z1 : i32 (if b < a then 1 else if a = b then 0 else -1) := by split <;> (try split) <;> exact ⟨by decide, by decide⟩
  refine lv_if_lt hx hb hd ht (fun h => ?_) (fun h => ?_)
  · rw [J_0] at h
    have h9 := (J_lt z1 z0).mp h
    exact kt (by split at h9 <;> (try split at h9) <;> omega) H locs ls hl hP hS
  · rw [J_0] at h
    have h9 := Int.not_lt.mp (fun q => h ((J_lt z1 z0).mpr q))
    exact kf (by split at h9 <;> (try split at h9) <;> omega) H locs ls hl hP hS
theorem g_lcmp_ge {Θ : gT} {l : Launch} {D : gD} {ad : gA} {cc : ByteArray} {own : String} {nL d pc : Nat} {lv : List (Nat × Value)} {st : List Value} {x : gX} {y : gY} {off : Int} {a b : Int} (tgt : Nat) (F : gF Θ l D ad cc own nL d) (hd0 : decode cc pc = .ok (.lcmp, 1)) (hd : decode cc (pc + 1) = .ok (.ifCond .ge off, 3)) (ha : i64 a) (hb2 : i64 b) (ht : ((pc + 1 : Nat) : Int) + off = (tgt : Int)) (kt : b ≤ a → gW Θ l D ad nL tgt lv st x y) (kf : a < b → gW Θ l D ad nL (pc + 1 + 3) lv st x y) : gW Θ l D ad nL pc lv (.long (Lg b) :: .long (Lg a) :: st) x y := by
  obtain ⟨p, e, R, s, m, args, below, meth, c, Q, A, H0, cells, slots⟩ := Θ
  obtain ⟨hx, hb, hml, ho, hts, hN, hK, hAp, hr1, hr2, hr3, hr4⟩ := F
  intro H locs ls hl hP hS
  refine W.lcmp hx hb hd0 ?_
  rw [lg_cmp_J ha hb2]
  have z0 : i32 0 := ⟨by decide, by decide⟩
  have z1 : i32 (if b < a then 1 else if a = b then 0 else -1) := by split <;> (try split) <;> exact ⟨by decide, by decide⟩
  refine lv_if_ge hx hb hd ht (fun h => ?_) (fun h => ?_)
  · rw [J_0] at h
    have h9 := (J_le z0 z1).mp h
    exact kt (by split at h9 <;> (try split at h9) <;> omega) H locs ls hl hP hS
  · rw [J_0] at h
    have h9 := Int.not_le.mp (fun q => h ((J_le z0 z1).mpr q))
    exact kf (by split at h9 <;> (try split at h9) <;> omega) H locs ls hl hP hS
theorem g_lcmp_gt {Θ : gT} {l : Launch} {D : gD} {ad : gA} {cc : ByteArray} {own : String} {nL d pc : Nat} {lv : List (Nat × Value)} {st : List Value} {x : gX} {y : gY} {off : Int} {a b : Int} (tgt : Nat) (F : gF Θ l D ad cc own nL d) (hd0 : decode cc pc = .ok (.lcmp, 1)) (hd : decode cc (pc + 1) = .ok (.ifCond .gt off, 3)) (ha : i64 a) (hb2 : i64 b) (ht : ((pc + 1 : Nat) : Int) + off = (tgt : Int)) (kt : b < a → gW Θ l D ad nL tgt lv st x y) (kf : a ≤ b → gW Θ l D ad nL (pc + 1 + 3) lv st x y) : gW Θ l D ad nL pc lv (.long (Lg b) :: .long (Lg a) :: st) x y := by
  obtain ⟨p, e, R, s, m, args, below, meth, c, Q, A, H0, cells, slots⟩ := Θ
  obtain ⟨hx, hb, hml, ho, hts, hN, hK, hAp, hr1, hr2, hr3, hr4⟩ := F
  intro H locs ls hl hP hS
  refine W.lcmp hx hb hd0 ?_
  rw [lg_cmp_J ha hb2]
  have z0 : i32 0 := ⟨by decide, by decide⟩
  have z1 : i32 (if b < a then 1 else if a = b then 0 else -1) := by split <;> (try split) <;> exact ⟨by decide, by decide⟩
  refine lv_if_gt hx hb hd ht (fun h => ?_) (fun h => ?_)
  · rw [J_0] at h
    have h9 := (J_lt z0 z1).mp h
    exact kt (by split at h9 <;> (try split at h9) <;> omega) H locs ls hl hP hS
  · rw [J_0] at h
    have h9 := Int.not_lt.mp (fun q => h ((J_lt z0 z1).mpr q))
    exact kf (by split at h9 <;> (try split at h9) <;> omega) H locs ls hl hP hS
theorem g_lcmp_le {Θ : gT} {l : Launch} {D : gD} {ad : gA} {cc : ByteArray} {own : String} {nL d pc : Nat} {lv : List (Nat × Value)} {st : List Value} {x : gX} {y : gY} {off : Int} {a b : Int} (tgt : Nat) (F : gF Θ l D ad cc own nL d) (hd0 : decode cc pc = .ok (.lcmp, 1)) (hd : decode cc (pc + 1) = .ok (.ifCond .le off, 3)) (ha : i64 a) (hb2 : i64 b) (ht : ((pc + 1 : Nat) : Int) + off = (tgt : Int)) (kt : a ≤ b → gW Θ l D ad nL tgt lv st x y) (kf : b < a → gW Θ l D ad nL (pc + 1 + 3) lv st x y) : gW Θ l D ad nL pc lv (.long (Lg b) :: .long (Lg a) :: st) x y := by
  obtain ⟨p, e, R, s, m, args, below, meth, c, Q, A, H0, cells, slots⟩ := Θ
  obtain ⟨hx, hb, hml, ho, hts, hN, hK, hAp, hr1, hr2, hr3, hr4⟩ := F
  intro H locs ls hl hP hS
  refine W.lcmp hx hb hd0 ?_
  rw [lg_cmp_J ha hb2]
  have z0 : i32 0 := ⟨by decide, by decide⟩
  have z1 : i32 (if b < a then 1 else if a = b then 0 else -1) := by split <;> (try split) <;> exact ⟨by decide, by decide⟩
  refine lv_if_le hx hb hd ht (fun h => ?_) (fun h => ?_)
  · rw [J_0] at h
    have h9 := (J_le z1 z0).mp h
    exact kt (by split at h9 <;> (try split at h9) <;> omega) H locs ls hl hP hS
  · rw [J_0] at h
    have h9 := Int.not_le.mp (fun q => h ((J_le z1 z0).mpr q))
    exact kf (by split at h9 <;> (try split at h9) <;> omega) H locs ls hl hP hS
theorem g_goto {Θ : gT} {l : Launch} {D : gD} {ad : gA} {cc : ByteArray} {own : String} {nL d pc : Nat} {lv : List (Nat × Value)} {st : List Value} {x : gX} {y : gY} {off : Int} (F : gF Θ l D ad cc own nL d) (tgt : Nat) (hd : decode cc pc = .ok (.goto off, 3)) (ht : (pc : Int) + off = (tgt : Int)) (kk : gW Θ l D ad nL tgt lv st x y) : gW Θ l D ad nL pc lv st x y := by
  obtain ⟨p, e, R, s, m, args, below, meth, c, Q, A, H0, cells, slots⟩ := Θ
  obtain ⟨hx, hb, hml, ho, hts, hN, hK, hAp, hr1, hr2, hr3, hr4⟩ := F
  intro H locs ls hl hP hS
  exact lv_goto hx hb hd ht (kk H locs ls hl hP hS)
theorem g_switch {Θ : gT} {l : Launch} {D : gD} {ad : gA} {cc : ByteArray} {own : String} {nL d pc : Nat} {lv : List (Nat × Value)} {st : List Value} {x : gX} {y : gY} {dflt lo hi : Int} {offs : Array Int} {len : Nat} {off a : Int} (F : gF Θ l D ad cc own nL d) (tgt : Nat) (hd : decode cc pc = .ok (.tableswitch dflt lo hi offs, len)) (ha : i32 a) (h1 : lo ≤ a) (h2 : a ≤ hi) (hf : offs[(a - lo).toNat]? = some off) (ht : (pc : Int) + off = (tgt : Int)) (kk : gW Θ l D ad nL tgt lv st x y) : gW Θ l D ad nL pc lv (.int (J a) :: st) x y := by
  obtain ⟨p, e, R, s, m, args, below, meth, c, Q, A, H0, cells, slots⟩ := Θ
  obtain ⟨hx, hb, hml, ho, hts, hN, hK, hAp, hr1, hr2, hr3, hr4⟩ := F
  intro H locs ls hl hP hS
  exact lv_tableIn hx hb hd (by rw [J_toInt ha]; omega) (by rw [J_toInt ha]; omega) (by rw [J_toInt ha]; exact hf) ht (kk H locs ls hl hP hS)
theorem g_switchD {Θ : gT} {l : Launch} {D : gD} {ad : gA} {cc : ByteArray} {own : String} {nL d pc : Nat} {lv : List (Nat × Value)} {st : List Value} {x : gX} {y : gY} {dflt lo hi : Int} {offs : Array Int} {len : Nat} {a : Int} (F : gF Θ l D ad cc own nL d) (tgt : Nat) (hd : decode cc pc = .ok (.tableswitch dflt lo hi offs, len)) (ha : i32 a) (h1 : a < lo ∨ hi < a) (ht : (pc : Int) + dflt = (tgt : Int)) (kk : gW Θ l D ad nL tgt lv st x y) : gW Θ l D ad nL pc lv (.int (J a) :: st) x y := by
  obtain ⟨p, e, R, s, m, args, below, meth, c, Q, A, H0, cells, slots⟩ := Θ
  obtain ⟨hx, hb, hml, ho, hts, hN, hK, hAp, hr1, hr2, hr3, hr4⟩ := F
  intro H locs ls hl hP hS
  exact lv_tableOut hx hb hd (by rw [J_toInt ha]; exact h1) ht (kk H locs ls hl hP hS)
theorem g_lookup {Θ : gT} {l : Launch} {D : gD} {ad : gA} {cc : ByteArray} {own : String} {nL d pc : Nat} {lv : List (Nat × Value)} {st : List Value} {x : gX} {y : gY} {dflt : Int} {ps : Array (Int × Int)} {len : Nat} {off a : Int} (F : gF Θ l D ad cc own nL d) (tgt : Nat) (hd : decode cc pc = .ok (.lookupswitch dflt ps, len)) (hp : (ps.toList.zip (ps.toList.drop 1)).all (fun (a, next) => a.1 < next.1) = true) (ha : i32 a) (hf : Op.lookupswitch.offset ps.toList dflt a = off) (ht : (pc : Int) + off = (tgt : Int)) (kk : gW Θ l D ad nL tgt lv st x y) : gW Θ l D ad nL pc lv (.int (J a) :: st) x y := by
  obtain ⟨p, e, R, s, m, args, below, meth, c, Q, A, H0, cells, slots⟩ := Θ
  obtain ⟨hx, hb, hml, ho, hts, hN, hK, hAp, hr1, hr2, hr3, hr4⟩ := F
  intro H locs ls hl hP hS
  exact lv_lookup hx hb hd hp (by rw [J_toInt ha]; exact hf) ht (kk H locs ls hl hP hS)
