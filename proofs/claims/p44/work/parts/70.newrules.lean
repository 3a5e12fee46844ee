/-! making: a state of a constructor over a world that grows -/
def gAo (U : State) : Prop := va_AO RX6 U ∧ va_AO RX3 U ∧ va_AO RX1 U
theorem gAo_moved {u U : State} (hvm : u.vm.Alike U.vm) (h : gAo u) : gAo U := ⟨va_AO.moved hvm h.1, va_AO.moved hvm h.2.1, va_AO.moved hvm h.2.2⟩
def nF (Θ : gT) (l : Launch) (D : gD) (cc : ByteArray) (own : String) (nL d K N : Nat) : Prop :=
  match Θ with
  | (p, e, R, s, m, args, below, meth, c, Q, A, H0, cells, slots) => p.tables.exec = Jvm.exec ∧ c.code = cc ∧ c.maxLocals = nL ∧ s.vm.findClass own = some m.cls ∧ (∀ w ∈ wA, w.before args s = true) ∧ gNs s ∧ gKn D s ∧ gAo s ∧ (∀ q : Nat, H0.size ≤ q → A q) ∧ d ≤ R.frames ∧ 64 * d ≤ R.locals ∧ K ≤ R.cells ∧ N ≤ R.slots
def nIn (Θ : gT) : Prop :=
  match Θ with
  | (p, e, R, s, m, args, below, meth, c, Q, A, H0, cells, slots) => meth.name = "<init>"
def nW (Θ : gT) (l : Launch) (D : gD) (nL pc : Nat) (lv : List (Nat × Value)) (st : List Value) (ws : va_W) (k n : Nat) : Prop :=
  match Θ with
  | (p, e, R, s, m, args, below, meth, c, Q, A, H0, cells, slots) => ∀ (H : Heap) (locs : List Loc) (ls : Array Slot), lv_has ls nL lv → va_P D.1 vwCl ws H → va_D A ws → va_S A H0 H locs → W p l e R s m args below meth c H locs k n Q (F0 m pc ls st)
def nPre (D : gD) (ws : va_W) (sz : Nat) (U : State) : Prop := U.heap.size = sz ∧ va_P D.1 vwCl ws U.heap ∧ gKn D U ∧ gNs U ∧ gAo U ∧ va_D (fun _ => True) ws
def nRm (d k n : Nat) : Room := { frames := d, cells := k, slots := n, locals := 64 * d }
def nQ {S : Type} (D : gD) (ws : va_W) (W : S → va_W) (sz : Nat) : Array Value → State → Outcome → State → Prop := va_Qv (fun _ : S => True) (fun u t => va_P D.1 vwCl (W u) t.heap ∧ va_D (va_A ws sz) (W u)) (va_A ws sz)
/-- a constructor's contract: by its world ws, to the world that W gives, k cells of n slots are new -/
def nC {S : Type} (l : Launch) (D : gD) (d : Nat) (m : MethodName) (cc : ByteArray) (nL : Nat) (av : List Value) (ws : va_W) (W : S → va_W) (k n : Nat) : Prop := ∀ sz : Nat, Met l m (Cond.code m cc nL none :: wA) (nRm d k n) (va_Pc av (nPre D ws sz)) (nQ D ws W sz) k n (va_A ws sz)
def nR {S : Type} (Θ : gT) (D : gD) (ws : va_W) (W : S → va_W) (k n : Nat) : Prop :=
  match Θ with
  | (p, e, R, s, m, args, below, meth, c, Q, A, H0, cells, slots) => Q = MQ below (nQ D ws W s.heap.size) args s k n (va_A ws s.heap.size) ∧ meth.sig.returnType = none ∧ meth.locks = false ∧ A = va_A ws s.heap.size ∧ H0 = s.heap
theorem n_met {S : Type} {l : Launch} {D : gD} {d : Nat} {m : MethodName} {cc : ByteArray} {nL : Nat} {av : List Value} {ws : va_W} {W : S → va_W} {k n : Nat} (own : String) (ho : m.cls = own) (hy : plainName m.cls = true) (hnm : m.name = "<init>") (lv : List (Nat × Value)) (hlv : lv_args 0 av = lv) (hav : (lg_sl av).length ≤ nL)
    (body : ∀ Θ : gT, nF Θ l D cc own nL d k n → nIn Θ → nR Θ D ws W k n → nW Θ l D nL 0 lv [] ws 0 0) : nC l D d m cc nL av ws W k n := by
  intro sz
  refine Met.ofW (cc := cc) (maxL := nL) (ret := none) hy rfl ?_
  intro p e s m1 args below meth c s₁ B hml hv
  obtain ⟨rfl, hsz, hP, hK, hN, hO, hD⟩ := hv
  subst hsz
  have hts := atoms_spec (ws := Cond.code m cc nL none :: wA) B.pre
  have hin : meth.name = "<init>" := (name_of_methodNamed B.named B.method).1.trans hnm
  have hl := lv_entry av (n := nL) hav
  rw [lg_entry_eq]
  rw [hlv] at hl
  exact body (p, e, (headSpec (Cond.code m cc nL none :: wA) (nRm d k n)).room, s, m1, av.toArray, below, meth, c, MQ below (nQ D ws W s.heap.size) av.toArray s k n (va_A ws s.heap.size), va_A ws s.heap.size, s.heap, 0, 0)
    ⟨B.exec, B.bytes, hml, ho ▸ findClass_of_methodNamed B.named, fun w hw => hts w (List.mem_cons_of_mem _ hw), hN, hK, hO, fun q h => Or.inr h, Nat.le_refl _, Nat.le_refl _, Nat.le_refl _, Nat.le_refl _⟩ hin
    ⟨rfl, B.returns, B.notSynchronized, rfl, rfl⟩ s.heap [] _ hl hP hD.self va_S.rf
theorem nC_blind {D : gD} {ws : va_W} {sz : Nat} {av : List Value} : FrameBlind (va_Pc av (nPre D ws sz)) := fun a U g mk q => by
  obtain ⟨q0, q1, qP, qK, qN, qO, qD⟩ := q
  exact ⟨q0, q1, qP, va_K.moved (u := U) (U := U.calling g mk a) (Vm.Alike.refl U.vm) qK, gNs_vm (u := U) (U := U.calling g mk a) rfl qN, gAo_moved (u := U) (U := U.calling g mk a) (Vm.Alike.refl U.vm) qO, qD⟩
theorem n_ws {Θ : gT} {l : Launch} {D : gD} {nL pc k n : Nat} {lv : List (Nat × Value)} {st : List Value} {ws : va_W} {ws' : va_W} {k' n' : Nat} (h : ws = ws') (hk : k = k') (hn : n = n') (kk : nW Θ l D nL pc lv st ws' k' n') : nW Θ l D nL pc lv st ws k n := by subst h; subst hk; subst hn; exact kk
theorem n_iconst {Θ : gT} {l : Launch} {D : gD} {cc : ByteArray} {own : String} {nL d K N pc k n : Nat} {lv : List (Nat × Value)} {st : List Value} {ws : va_W} {z : Int} (F : nF Θ l D cc own nL d K N) (hd : decode cc pc = .ok (.iconst z, 1)) (v : Int) (hv : Int32.ofInt z = J v) (kk : nW Θ l D nL (pc + 1) lv (.int (J v) :: st) (ws) (k) (n)) : nW Θ l D nL pc lv (st) ws k n := by
  obtain ⟨p, e, R, s, m, args, below, meth, c, Q, A, H0, cells, slots⟩ := Θ
  obtain ⟨hx, hb, hml, ho, hts, hN, hK, hO, hA, hr1, hr2, hr3, hr4⟩ := F
  intro H locs ls hl hP hD hS
  exact lv_iconst hx hb hd hv (kk H locs ls hl hP hD hS)
theorem n_bipush {Θ : gT} {l : Launch} {D : gD} {cc : ByteArray} {own : String} {nL d K N pc k n : Nat} {lv : List (Nat × Value)} {st : List Value} {ws : va_W} {z : Int} (F : nF Θ l D cc own nL d K N) (hd : decode cc pc = .ok (.bipush z, 2)) (v : Int) (hv : (Int8.ofInt z).toInt32 = J v) (kk : nW Θ l D nL (pc + 2) lv (.int (J v) :: st) (ws) (k) (n)) : nW Θ l D nL pc lv (st) ws k n := by
  obtain ⟨p, e, R, s, m, args, below, meth, c, Q, A, H0, cells, slots⟩ := Θ
  obtain ⟨hx, hb, hml, ho, hts, hN, hK, hO, hA, hr1, hr2, hr3, hr4⟩ := F
  intro H locs ls hl hP hD hS
  exact lv_bipush hx hb hd hv (kk H locs ls hl hP hD hS)
theorem n_sipush {Θ : gT} {l : Launch} {D : gD} {cc : ByteArray} {own : String} {nL d K N pc k n : Nat} {lv : List (Nat × Value)} {st : List Value} {ws : va_W} {z : Int} (F : nF Θ l D cc own nL d K N) (hd : decode cc pc = .ok (.sipush z, 3)) (v : Int) (hv : (Int16.ofInt z).toInt32 = J v) (kk : nW Θ l D nL (pc + 3) lv (.int (J v) :: st) (ws) (k) (n)) : nW Θ l D nL pc lv (st) ws k n := by
  obtain ⟨p, e, R, s, m, args, below, meth, c, Q, A, H0, cells, slots⟩ := Θ
  obtain ⟨hx, hb, hml, ho, hts, hN, hK, hO, hA, hr1, hr2, hr3, hr4⟩ := F
  intro H locs ls hl hP hD hS
  exact lv_sipush hx hb hd hv (kk H locs ls hl hP hD hS)
theorem n_lconst {Θ : gT} {l : Launch} {D : gD} {cc : ByteArray} {own : String} {nL d K N pc k n : Nat} {lv : List (Nat × Value)} {st : List Value} {ws : va_W} {z : Fin 2} (F : nF Θ l D cc own nL d K N) (hd : decode cc pc = .ok (.lconst z, 1)) (v : Int) (hv : Int64.ofNat (z : Nat) = Lg v) (kk : nW Θ l D nL (pc + 1) lv (.long (Lg v) :: st) (ws) (k) (n)) : nW Θ l D nL pc lv (st) ws k n := by
  obtain ⟨p, e, R, s, m, args, below, meth, c, Q, A, H0, cells, slots⟩ := Θ
  obtain ⟨hx, hb, hml, ho, hts, hN, hK, hO, hA, hr1, hr2, hr3, hr4⟩ := F
  intro H locs ls hl hP hD hS
  exact lv_lconst hx hb hd hv (kk H locs ls hl hP hD hS)
theorem n_iload_n {Θ : gT} {l : Launch} {D : gD} {cc : ByteArray} {own : String} {nL d K N pc k n : Nat} {lv : List (Nat × Value)} {st : List Value} {ws : va_W} {f : Fin 4} {i : Nat} {v : Int32} (F : nF Θ l D cc own nL d K N) (hd : decode cc pc = .ok (.iload_n f, 1)) (hi : (f : Nat) = i) (q : Nat) (hq : lv[q]? = some (i, .int v)) (kk : nW Θ l D nL (pc + 1) lv (.int v :: st) (ws) (k) (n)) : nW Θ l D nL pc lv (st) ws k n := by
  obtain ⟨p, e, R, s, m, args, below, meth, c, Q, A, H0, cells, slots⟩ := Θ
  obtain ⟨hx, hb, hml, ho, hts, hN, hK, hO, hA, hr1, hr2, hr3, hr4⟩ := F
  intro H locs ls hl hP hD hS
  exact lv_iload_n hx hb hd hi (lv_at hl q hq) (kk H locs ls hl hP hD hS)
theorem n_aload_n {Θ : gT} {l : Launch} {D : gD} {cc : ByteArray} {own : String} {nL d K N pc k n : Nat} {lv : List (Nat × Value)} {st : List Value} {ws : va_W} {f : Fin 4} {i v : Nat} (F : nF Θ l D cc own nL d K N) (hd : decode cc pc = .ok (.aload_n f, 1)) (hi : (f : Nat) = i) (q : Nat) (hq : lv[q]? = some (i, .ref v)) (kk : nW Θ l D nL (pc + 1) lv (.ref v :: st) (ws) (k) (n)) : nW Θ l D nL pc lv (st) ws k n := by
  obtain ⟨p, e, R, s, m, args, below, meth, c, Q, A, H0, cells, slots⟩ := Θ
  obtain ⟨hx, hb, hml, ho, hts, hN, hK, hO, hA, hr1, hr2, hr3, hr4⟩ := F
  intro H locs ls hl hP hD hS
  exact lv_aload_n hx hb hd hi (lv_at hl q hq) (kk H locs ls hl hP hD hS)
theorem n_istore_n {Θ : gT} {l : Launch} {D : gD} {cc : ByteArray} {own : String} {nL d K N pc k n : Nat} {lv : List (Nat × Value)} {st : List Value} {ws : va_W} {f : Fin 4} {i : Nat} {v : Int32} (F : nF Θ l D cc own nL d K N) (lv1 : List (Nat × Value)) (hd : decode cc pc = .ok (.istore_n f, 1)) (hi : (f : Nat) = i) (hn : i < nL) (h1 : (i, Value.int v) :: lv.filter (fun q => !(q.1 == i) && !(q.1 + 1 == i && q.2.category == 2)) = lv1) (kk : nW Θ l D nL (pc + 1) lv1 (st) (ws) (k) (n)) : nW Θ l D nL pc lv (.int v :: st) ws k n := by
  obtain ⟨p, e, R, s, m, args, below, meth, c, Q, A, H0, cells, slots⟩ := Θ
  obtain ⟨hx, hb, hml, ho, hts, hN, hK, hO, hA, hr1, hr2, hr3, hr4⟩ := F
  intro H locs ls hl hP hD hS
  exact lv_istore_n hx hb hd hi hl hn h1 (fun ls hl => kk H locs ls hl hP hD hS)
theorem n_astore_n {Θ : gT} {l : Launch} {D : gD} {cc : ByteArray} {own : String} {nL d K N pc k n : Nat} {lv : List (Nat × Value)} {st : List Value} {ws : va_W} {f : Fin 4} {i v : Nat} (F : nF Θ l D cc own nL d K N) (lv1 : List (Nat × Value)) (hd : decode cc pc = .ok (.astore_n f, 1)) (hi : (f : Nat) = i) (hn : i < nL) (h1 : (i, Value.ref v) :: lv.filter (fun q => !(q.1 == i) && !(q.1 + 1 == i && q.2.category == 2)) = lv1) (kk : nW Θ l D nL (pc + 1) lv1 (st) (ws) (k) (n)) : nW Θ l D nL pc lv (.ref v :: st) ws k n := by
  obtain ⟨p, e, R, s, m, args, below, meth, c, Q, A, H0, cells, slots⟩ := Θ
  obtain ⟨hx, hb, hml, ho, hts, hN, hK, hO, hA, hr1, hr2, hr3, hr4⟩ := F
  intro H locs ls hl hP hD hS
  exact lv_astore_n hx hb hd hi hl hn h1 (fun ls hl => kk H locs ls hl hP hD hS)
theorem n_iinc {Θ : gT} {l : Launch} {D : gD} {cc : ByteArray} {own : String} {nL d K N pc k n : Nat} {lv : List (Nat × Value)} {st : List Value} {ws : va_W} {i : Nat} {z a : Int} (F : nF Θ l D cc own nL d K N) (lv1 : List (Nat × Value)) (q : Nat) (hq : lv[q]? = some (i, .int (J a))) (hd : decode cc pc = .ok (.iinc i z, 3)) (hn : i < nL) (h1 : (i, Value.int (J (a + z))) :: lv.filter (fun q => !(q.1 == i) && !(q.1 + 1 == i && q.2.category == 2)) = lv1) (kk : nW Θ l D nL (pc + 3) lv1 (st) (ws) (k) (n)) : nW Θ l D nL pc lv (st) ws k n := by
  obtain ⟨p, e, R, s, m, args, below, meth, c, Q, A, H0, cells, slots⟩ := Θ
  obtain ⟨hx, hb, hml, ho, hts, hN, hK, hO, hA, hr1, hr2, hr3, hr4⟩ := F
  intro H locs ls hl hP hD hS
  exact lv_iinc hx hb hd hl hq (J_add a z) hn h1 (fun ls hl => kk H locs ls hl hP hD hS)
theorem n_dup {Θ : gT} {l : Launch} {D : gD} {cc : ByteArray} {own : String} {nL d K N pc k n : Nat} {lv : List (Nat × Value)} {st : List Value} {ws : va_W} {v : Value} (F : nF Θ l D cc own nL d K N) (hd : decode cc pc = .ok (.dup, 1)) (hv : v.category = 1) (kk : nW Θ l D nL (pc + 1) lv (v :: v :: st) (ws) (k) (n)) : nW Θ l D nL pc lv (v :: st) ws k n := by
  obtain ⟨p, e, R, s, m, args, below, meth, c, Q, A, H0, cells, slots⟩ := Θ
  obtain ⟨hx, hb, hml, ho, hts, hN, hK, hO, hA, hr1, hr2, hr3, hr4⟩ := F
  intro H locs ls hl hP hD hS
  exact lv_dup hx hb hd hv (kk H locs ls hl hP hD hS)
theorem n_goto {Θ : gT} {l : Launch} {D : gD} {cc : ByteArray} {own : String} {nL d K N pc k n : Nat} {lv : List (Nat × Value)} {st : List Value} {ws : va_W} {off : Int} (F : nF Θ l D cc own nL d K N) (tgt : Nat) (hd : decode cc pc = .ok (.goto off, 3)) (ht : (pc : Int) + off = (tgt : Int)) (kk : nW Θ l D nL (tgt) lv (st) (ws) (k) (n)) : nW Θ l D nL pc lv (st) ws k n := by
  obtain ⟨p, e, R, s, m, args, below, meth, c, Q, A, H0, cells, slots⟩ := Θ
  obtain ⟨hx, hb, hml, ho, hts, hN, hK, hO, hA, hr1, hr2, hr3, hr4⟩ := F
  intro H locs ls hl hP hD hS
  exact lv_goto hx hb hd ht (kk H locs ls hl hP hD hS)
theorem n_geT {Θ : gT} {l : Launch} {D : gD} {cc : ByteArray} {own : String} {nL d K N pc k n : Nat} {lv : List (Nat × Value)} {st : List Value} {ws : va_W} {off a b : Int} (F : nF Θ l D cc own nL d K N) (tgt : Nat) (hd : decode cc pc = .ok (.if_icmp .ge off, 3)) (ha : i32 a) (hb2 : i32 b) (ht : (pc : Int) + off = (tgt : Int)) (hc : b ≤ a) (kk : nW Θ l D nL (tgt) lv (st) (ws) (k) (n)) : nW Θ l D nL pc lv (.int (J b) :: .int (J a) :: st) ws k n := by
  obtain ⟨p, e, R, s, m, args, below, meth, c, Q, A, H0, cells, slots⟩ := Θ
  obtain ⟨hx, hb, hml, ho, hts, hN, hK, hO, hA, hr1, hr2, hr3, hr4⟩ := F
  intro H locs ls hl hP hD hS
  exact lv_icmp_ge hx hb hd ht (fun _ => kk H locs ls hl hP hD hS) (fun h => absurd ((J_le hb2 ha).mpr hc) h)
theorem n_geF {Θ : gT} {l : Launch} {D : gD} {cc : ByteArray} {own : String} {nL d K N pc k n : Nat} {lv : List (Nat × Value)} {st : List Value} {ws : va_W} {off a b : Int} (F : nF Θ l D cc own nL d K N) (tgt : Nat) (hd : decode cc pc = .ok (.if_icmp .ge off, 3)) (ha : i32 a) (hb2 : i32 b) (ht : (pc : Int) + off = (tgt : Int)) (hc : a < b) (kk : nW Θ l D nL (pc + 3) lv (st) (ws) (k) (n)) : nW Θ l D nL pc lv (.int (J b) :: .int (J a) :: st) ws k n := by
  obtain ⟨p, e, R, s, m, args, below, meth, c, Q, A, H0, cells, slots⟩ := Θ
  obtain ⟨hx, hb, hml, ho, hts, hN, hK, hO, hA, hr1, hr2, hr3, hr4⟩ := F
  intro H locs ls hl hP hD hS
  exact lv_icmp_ge hx hb hd ht (fun h => absurd ((J_le hb2 ha).mp h) (by omega)) (fun _ => kk H locs ls hl hP hD hS)
theorem kO_i : Cond.instanceMethod Lib.objectInit ∈ wA := tA 18 (by decide +kernel) rfl
theorem kO_c : Cond.code Lib.objectInit ⟨#[0xb1]⟩ 1 none ∈ wA := tA 19 (by decide +kernel) rfl
theorem kAr : Cond.arrayClass .int ∈ wA := tA 43 (by decide +kernel) rfl
theorem n_objInit {Θ : gT} {l : Launch} {D : gD} {cc : ByteArray} {own : String} {nL d K N pc k n : Nat} {lv : List (Nat × Value)} {st : List Value} {ws : va_W} {a idx : Nat} (F : nF Θ l D cc own nL d K N) (hk : Cond.methodLink own idx Lib.objectInit ∈ wA) (h1 : 1 ≤ d) (hd : decode cc pc = .ok (.invokespecial idx, 3)) (kk : nW Θ l D nL (pc + 3) lv ([]) (ws) (k) (n)) : nW Θ l D nL pc lv ([.ref a]) ws k n := by
  obtain ⟨p, e, R, s, m, args, below, meth, c, Q, A, H0, cells, slots⟩ := Θ
  obtain ⟨hx, hb, hml, ho, hts, hN, hK, hO, hA, hr1, hr2, hr3, hr4⟩ := F
  intro H locs ls hl hP hD hS
  refine W.objInit hx hb ho (hts _ hk) (hts _ kO_i) (hts _ kO_c) rfl (by rw [hml]; exact hl.1) rfl hd (by omega) (Nat.le_trans (show _ ≤ 64 from Nat.le_of_ble_eq_true rfl) (by omega)) ?_
  exact W.eq (g2 := F0 m (pc + 3) ls []) rfl (kk H locs ls hl hP hD hS)
theorem kI_eq {D : gD} {cA : ClassId} {s : State} (h : va_K D.1 vwCl (gTys D.2.1 D.2.2.1 D.2.2.2.1 D.2.2.2.2 ++ [(cA, .int)]) s) : cA = D.2.1 := by
  have h1 : s.vm.findClass ("[" ++ FieldType.int.toString) = some D.2.1 := (h.2 0 _ rfl).2
  have h2 : s.vm.findClass ("[" ++ FieldType.int.toString) = some cA := (h.2 4 _ rfl).2
  exact Option.some.inj (h2.symm.trans h1)
theorem kR_eq {D : gD} {cA cC : ClassId} {C : String} {s : State} {t0 : Nat} (ht : (gTys D.2.1 D.2.2.1 D.2.2.2.1 D.2.2.2.2)[t0]? = some (cC, .object C)) (h : va_K D.1 vwCl (gTys D.2.1 D.2.2.1 D.2.2.2.1 D.2.2.2.2 ++ [(cA, .object C)]) s) : cA = cC := by
  have hl := (List.getElem?_eq_some_iff.mp ht).1
  obtain ⟨-, -, -, -, -, h1⟩ := (h.2 t0 (cC, .object C) (by rw [List.getElem?_append_left hl]; exact ht)).2
  obtain ⟨-, -, -, -, -, h2⟩ := (h.2 4 (cA, .object C) rfl).2
  exact Option.some.inj (h2.symm.trans h1)
theorem J_nn {a : Int} {M : Nat} (ha : a = (M : Int)) (hM : M ≤ 3000) : ¬ J a < 0 ∧ (J a).toNatClampNeg = M := by
  subst ha
  have h : i32 (M : Int) := ⟨by omega, by omega⟩
  refine ⟨fun q => ?_, by rw [J_cl h]; rfl⟩
  rw [J_0, J_lt h ⟨by decide, by decide⟩] at q
  omega
def qArr (c : ClassId) (n : Nat) (f : Nat → Option Nat) : va_E := .inl (c, n, .inr (.inr (.inr (.inr f))))
def qInt (c : ClassId) (n : Nat) (f : Nat → Int32) : va_E := .inl (c, n, .inl f)
theorem n_newa {Θ : gT} {l : Launch} {D : gD} {cc : ByteArray} {own : String} {nL d K N pc k n : Nat} {lv : List (Nat × Value)} {st : List Value} {ws : va_W} {a : Int} (F : nF Θ l D cc own nL d K N) (M : Nat) (hd : decode cc pc = .ok (.newarray .int, 2)) (ha : a = (M : Int)) (hM : M ≤ 3000) (hk : k + 1 ≤ K) (hn : n + M ≤ N) (kk : ∀ q : Nat, nW Θ l D nL (pc + 2) lv (.ref q :: st) (ws ++ [(q, qInt D.2.1 M (fun _ => J 0))]) (k + 1) (n + M)) : nW Θ l D nL pc lv (.int (J a) :: st) ws k n := by
  obtain ⟨p, e, R, s, m, args, below, meth, c, Q, A, H0, cells, slots⟩ := Θ
  obtain ⟨hx, hb, hml, ho, hts, hN, hK, hO, hA, hr1, hr2, hr3, hr4⟩ := F
  intro H locs ls hl hP hD hS
  refine va_newa (atype := .int) (ty := .int) (N' := M) (a0 := (M, .inl (fun _ => J 0))) hx hb (hts _ kAr) rfl hK hP hD hS hA (fun cA => by rw [vp_cell_i, ← J_0]; rfl) (J_nn ha hM).1 (J_nn ha hM).2 (by show M * 4 ≤ 536870912; omega) (by omega) (by omega) hd (fun q cA H1 hK1 hP1 hD1 hS1 => ?_)
  obtain rfl := kI_eq hK1
  exact kk q H1 locs ls hl hP1 hD1 hS1
theorem n_newq {Θ : gT} {l : Launch} {D : gD} {cc : ByteArray} {own : String} {nL d K N pc k n : Nat} {lv : List (Nat × Value)} {st : List Value} {ws : va_W} {a : Int} {C : String} {cC : ClassId} {idx : Nat} (F : nF Θ l D cc own nL d K N) (M t0 : Nat) (hC : ∀ U, gAo U → va_AO C U) (ht : (gTys D.2.1 D.2.2.1 D.2.2.2.1 D.2.2.2.2)[t0]? = some (cC, .object C)) (hcl : Cond.classLink own idx C ∈ wA) (hd : decode cc pc = .ok (.anewarray idx, 3)) (ha : a = (M : Int)) (hM : M ≤ 3000) (hk : k + 1 ≤ K) (hn : n + M ≤ N) (kk : ∀ q : Nat, nW Θ l D nL (pc + 3) lv (.ref q :: st) (ws ++ [(q, qArr cC M (fun _ => none))]) (k + 1) (n + M)) : nW Θ l D nL pc lv (.int (J a) :: st) ws k n := by
  obtain ⟨p, e, R, s, m, args, below, meth, c, Q, A, H0, cells, slots⟩ := Θ
  obtain ⟨hx, hb, hml, ho, hts, hN, hK, hO, hA, hr1, hr2, hr3, hr4⟩ := F
  intro H locs ls hl hP hD hS
  refine va_newq hx hb ho (hts _ hcl) (hC s hO) hK hP hD hS hA (N' := M) (J_nn ha hM).1 (J_nn ha hM).2 (by omega) (by omega) (by omega) hd (fun q cA H1 hK1 hP1 hD1 hS1 => ?_)
  obtain rfl := kR_eq ht hK1
  exact kk q H1 locs ls hl hP1 hD1 hS1
theorem n_new {Θ : gT} {l : Launch} {D : gD} {cc : ByteArray} {own : String} {nL d K N pc k n : Nat} {lv : List (Nat × Value)} {st : List Value} {ws : va_W} {C : String} {T : u_T} {F1 ci idx : Nat} {fs : List Value} (F : nF Θ l D cc own nL d K N) (hin : ∀ w ∈ u_ws C T F1, w ∈ wA) (ty : Nat → FieldType) (hty : ∀ j, j < F1 → parseFieldDescriptor (T j).2.2.1 = some (ty j)) (hcl : Cond.classLink own idx C ∈ wA) (hinst : Cond.instantiable C F1 ∈ wA) (hini : Cond.initialized C ∈ wA) (hc : vwCl[ci]? = some (C, T, F1)) (hfs : ∀ j, j < F1 → defaultValue (ty j) = vp_V fs j) (hk : k + 1 ≤ K) (hn : n + F1 ≤ N) (hd : decode cc pc = .ok (.new idx, 3)) (kk : ∀ q : Nat, nW Θ l D nL (pc + 3) lv (.ref q :: st) (ws ++ [(q, .inr (ci, fs))]) (k + 1) (n + F1)) : nW Θ l D nL pc lv (st) ws k n := by
  obtain ⟨p, e, R, s, m, args, below, meth, c, Q, A, H0, cells, slots⟩ := Θ
  obtain ⟨hx, hb, hml, ho, hts, hN, hK, hO, hA, hr1, hr2, hr3, hr4⟩ := F
  intro H locs ls hl hP hD hS
  exact va_new hx hb hts hin ty hty ho (hts _ hcl) (hts _ hinst) (hts _ hini) hK hP hD hS hA hc hfs (by omega) (by omega) hd (fun q H1 hP1 hD1 hS1 => kk q H1 locs ls hl hP1 hD1 hS1)
theorem n_put {Θ : gT} {l : Launch} {D : gD} {cc : ByteArray} {own : String} {nL d K N pc k n : Nat} {lv : List (Nat × Value)} {st : List Value} {ws : va_W} {C : String} {T : u_T} {F1 ci idx a : Nat} {fs : List Value} {v : Value} {ty : FieldType} (F : nF Θ l D cc own nL d K N) (hin : ∀ w ∈ u_ws C T F1, w ∈ wA) (ty0 : Nat → FieldType) (hty : ∀ j, j < F1 → parseFieldDescriptor (T j).2.2.1 = some (ty0 j)) (hnm : ∀ a, a < F1 → ∀ b, b < F1 → a ≠ b → (T a).2.1 ≠ (T b).2.1) (q0 : Nat) (he : ws[q0]? = some (a, .inr (ci, fs))) (hc : vwCl[ci]? = some (C, T, F1)) (i : Nat) (hi : i < F1) (hlink : Cond.fieldLink own idx C (T i).2.1 (T i).2.2.1 ∈ wA) (hsame : (T i).1 = C) (hfin : (T i).2.2.2 = false) (hd1 : parseFieldDescriptor (T i).2.2.1 = some ty) (hn1 : narrow ty v = v) (hfit : fits ty v = true) (hl1 : i < fs.length) (hd : decode cc pc = .ok (.putfield idx, 3)) (kk : nW Θ l D nL (pc + 3) lv (st) (ws.set q0 (a, .inr (ci, fs.set i v))) (k) (n)) : nW Θ l D nL pc lv (v :: .ref a :: st) ws k n := by
  obtain ⟨p, e, R, s, m, args, below, meth, c, Q, A, H0, cells, slots⟩ := Θ
  obtain ⟨hx, hb, hml, ho, hts, hN, hK, hO, hA, hr1, hr2, hr3, hr4⟩ := F
  intro H locs ls hl hP hD hS
  exact va_put (D := D.1) hx hb hts hin ty0 hty hnm ho hK hP hD hS q0 he hc i hi (hts _ hlink) (fun z h => by rw [← hsame]; exact h) hfin hd1 hn1 hfit hl1 hd (fun H1 locs1 hP1 hD1 hS1 => kk H1 locs1 ls hl hP1 hD1 hS1)
theorem n_putF {Θ : gT} {l : Launch} {D : gD} {cc : ByteArray} {own : String} {nL d K N pc k n : Nat} {lv : List (Nat × Value)} {st : List Value} {ws : va_W} {C : String} {T : u_T} {F1 ci idx a : Nat} {fs : List Value} {v : Value} {ty : FieldType} (F : nF Θ l D cc own nL d K N)  (I : nIn Θ) (hin : ∀ w ∈ u_ws C T F1, w ∈ wA) (ty0 : Nat → FieldType) (hty : ∀ j, j < F1 → parseFieldDescriptor (T j).2.2.1 = some (ty0 j)) (hnm : ∀ a, a < F1 → ∀ b, b < F1 → a ≠ b → (T a).2.1 ≠ (T b).2.1) (q0 : Nat) (he : ws[q0]? = some (a, .inr (ci, fs))) (hc : vwCl[ci]? = some (C, T, F1)) (i : Nat) (hi : i < F1) (hlink : Cond.fieldLink own idx C (T i).2.1 (T i).2.2.1 ∈ wA) (hsame : (T i).1 = C) (hfin : (T i).2.2.2 = true) (hdecl : (T i).1 = own) (hd1 : parseFieldDescriptor (T i).2.2.1 = some ty) (hn1 : narrow ty v = v) (hfit : fits ty v = true) (hl1 : i < fs.length) (hd : decode cc pc = .ok (.putfield idx, 3)) (kk : nW Θ l D nL (pc + 3) lv (st) (ws.set q0 (a, .inr (ci, fs.set i v))) (k) (n)) : nW Θ l D nL pc lv (v :: .ref a :: st) ws k n := by
  obtain ⟨p, e, R, s, m, args, below, meth, c, Q, A, H0, cells, slots⟩ := Θ
  obtain ⟨hx, hb, hml, ho, hts, hN, hK, hO, hA, hr1, hr2, hr3, hr4⟩ := F
  intro H locs ls hl hP hD hS
  exact va_putF (D := D.1) hx hb hts hin ty0 hty hnm ho hK hP hD hS q0 he hc i hi (hts _ hlink) (fun z h => by rw [← hsame]; exact h) hfin I hdecl hd1 hn1 hfit hl1 hd (fun H1 locs1 hP1 hD1 hS1 => kk H1 locs1 ls hl hP1 hD1 hS1)
theorem n_get {Θ : gT} {l : Launch} {D : gD} {cc : ByteArray} {own : String} {nL d K N pc k n : Nat} {lv : List (Nat × Value)} {st : List Value} {ws : va_W} {C : String} {T : u_T} {F1 ci idx a : Nat} {fs : List Value} {v : Value} (F : nF Θ l D cc own nL d K N) (hin : ∀ w ∈ u_ws C T F1, w ∈ wA) (q0 : Nat) (he : ws[q0]? = some (a, .inr (ci, fs))) (hc : vwCl[ci]? = some (C, T, F1)) (i : Nat) (hi : i < F1) (hlink : Cond.fieldLink own idx C (T i).2.1 (T i).2.2.1 ∈ wA) (hsame : (T i).1 = C) (hv : fs[i]? = some v) (hd : decode cc pc = .ok (.getfield idx, 3)) (kk : nW Θ l D nL (pc + 3) lv (v :: st) (ws) (k) (n)) : nW Θ l D nL pc lv (.ref a :: st) ws k n := by
  obtain ⟨p, e, R, s, m, args, below, meth, c, Q, A, H0, cells, slots⟩ := Θ
  obtain ⟨hx, hb, hml, ho, hts, hN, hK, hO, hA, hr1, hr2, hr3, hr4⟩ := F
  intro H locs ls hl hP hD hS
  exact va_get (D := D.1) hx hb hts hin ho hK hP q0 he hc i hi (hts _ hlink) (fun z h => by rw [← hsame]; exact h) hv hd (kk H locs ls hl hP hD hS)
theorem n_aast {Θ : gT} {l : Launch} {D : gD} {cc : ByteArray} {own : String} {nL d K N pc k n : Nat} {lv : List (Nat × Value)} {st : List Value} {ws : va_W} {C : String} {T : u_T} {F1 ci a v M : Nat} {cA : ClassId} {f : Nat → Option Nat} {vs : List Value} {z : Int} (F : nF Θ l D cc own nL d K N) (q0 t0 qk i : Nat) (he : ws[q0]? = some (a, qArr cA M f)) (ht : (gTys D.2.1 D.2.2.1 D.2.2.2.1 D.2.2.2.2)[t0]? = some (cA, .object C)) (hv : ws[qk]? = some (v, .inr (ci, vs))) (hc : vwCl[ci]? = some (C, T, F1)) (hz : z = (i : Int)) (hiM : i < M) (hM : M ≤ 3000) (hd : decode cc pc = .ok (.aastore, 1)) (kk : nW Θ l D nL (pc + 1) lv (st) (ws.set q0 (a, qArr cA M (va_up f i (some v)))) (k) (n)) : nW Θ l D nL pc lv (.ref v :: .int (J z) :: .ref a :: st) ws k n := by
  obtain ⟨p, e, R, s, m, args, below, meth, c, Q, A, H0, cells, slots⟩ := Θ
  obtain ⟨hx, hb, hml, ho, hts, hN, hK, hO, hA, hr1, hr2, hr3, hr4⟩ := F
  intro H locs ls hl hP hD hS
  have e := (J_nn hz (by omega)).2
  refine va_astq (D := D.1) (r := (C, T, F1)) hx hb hK hP hD hS q0 t0 qk ci he ht hv hc (J_in (by omega) (by omega) (by omega)) hd (fun H1 locs1 hP1 hD1 hS1 => kk H1 locs1 ls hl ?_ ?_ hS1)
  · rw [e] at hP1; exact hP1
  · rw [e] at hD1; exact hD1
theorem n_iast {Θ : gT} {l : Launch} {D : gD} {cc : ByteArray} {own : String} {nL d K N pc k n : Nat} {lv : List (Nat × Value)} {st : List Value} {ws : va_W} {a M : Nat} {f : Nat → Int32} {z w : Int} (F : nF Θ l D cc own nL d K N) (q0 i : Nat) (he : ws[q0]? = some (a, qInt D.2.1 M f)) (hz : z = (i : Int)) (hiM : i < M) (hM : M ≤ 3000) (hd : decode cc pc = .ok (.iastore, 1)) (kk : nW Θ l D nL (pc + 1) lv (st) (ws.set q0 (a, qInt D.2.1 M (upd f i (J w)))) (k) (n)) : nW Θ l D nL pc lv (.int (J w) :: .int (J z) :: .ref a :: st) ws k n := by
  obtain ⟨p, e, R, s, m, args, below, meth, c, Q, A, H0, cells, slots⟩ := Θ
  obtain ⟨hx, hb, hml, ho, hts, hN, hK, hO, hA, hr1, hr2, hr3, hr4⟩ := F
  intro H locs ls hl hP hD hS
  have e := (J_nn hz (by omega)).2
  refine va_iast (D := D.1) hx hb hK hP hD hS q0 0 he rfl (J_in (by omega) (by omega) (by omega)) hd (fun H1 locs1 hP1 hD1 hS1 => kk H1 locs1 ls hl ?_ ?_ hS1)
  · rw [e] at hP1; exact hP1
  · rw [e] at hD1; exact hD1
theorem n_wr {A : Nat → Prop} {wr wc : va_W} (hD : va_D A (wr ++ wc)) : va_D (fun _ => True) wc := by
  refine ⟨fun i j p q hi hj hpq => ?_, fun _ _ _ => trivial⟩
  have h := hD.1 (wr.length + i) (wr.length + j) p q (by rw [List.getElem?_append_right (by omega), Nat.add_sub_cancel_left]; exact hi) (by rw [List.getElem?_append_right (by omega), Nat.add_sub_cancel_left]; exact hj) hpq
  omega
theorem n_wp {D : va_G} {cl : List vw_C} {wr wc : va_W} {H : Heap} (hP : va_P D cl (wr ++ wc) H) : va_P D cl wc H := fun i q hi => hP (wr.length + i) q (by rw [List.getElem?_append_right (by omega), Nat.add_sub_cancel_left]; exact hi)
theorem nd_range' : ∀ (n a : Nat), va_nd (List.range' a n) = true
  | 0, _ => rfl
  | n + 1, a => by
    rw [List.range'_succ]
    show (decide (a ∉ List.range' (a + 1) n) && va_nd (List.range' (a + 1) n)) = true
    rw [nd_range' n (a + 1), Bool.and_true, decide_eq_true_eq, List.mem_range'_1]
    omega
theorem n_isC {wr wc : va_W} : (List.range' wr.length wc.length).map (fun i => (wr ++ wc)[i]?) = wc.map some := by
  apply List.ext_getElem?
  intro i
  rw [List.getElem?_map, List.getElem?_map]
  by_cases h : i < wc.length
  · rw [List.getElem?_range' h]
    show some ((wr ++ wc)[wr.length + 1 * i]?) = _
    rw [List.getElem?_append_right (by omega), show wr.length + 1 * i - wr.length = i by omega, List.getElem?_eq_getElem h]
    rfl
  · rw [List.getElem?_eq_none (by rw [List.length_range']; omega), List.getElem?_eq_none (by omega)]
    rfl
theorem n_isR {wr wc : va_W} : (List.range' 0 wr.length).map (fun i => (wr ++ wc)[i]?) = wr.map some := by
  apply List.ext_getElem?
  intro i
  rw [List.getElem?_map, List.getElem?_map]
  by_cases h : i < wr.length
  · rw [List.getElem?_range' h]
    show some ((wr ++ wc)[0 + 1 * i]?) = _
    rw [show 0 + 1 * i = i by omega, List.getElem?_append_left h, List.getElem?_eq_getElem h]
    rfl
  · rw [List.getElem?_eq_none (by rw [List.length_range']; omega), List.getElem?_eq_none (by omega)]
    rfl
theorem n_join {A0 : Nat → Prop} {D : va_G} {cl : List vw_C} {wr wc w1 : va_W} {H H1 : Heap} (hP : va_P D cl (wr ++ wc) H) (hD : va_D A0 (wr ++ wc)) (hk : ∀ q : Nat, q < H.size → ¬ va_A wc H.size q → H1[q]? = H[q]?) (hF : ∀ q, va_A wc H.size q → A0 q) (hP1 : va_P D cl w1 H1) (hD1 : va_D (va_A wc H.size) w1) : va_P D cl (wr ++ w1) H1 ∧ va_D A0 (wr ++ w1) :=
  va_join hP hD (List.range' wr.length wc.length) (List.range' 0 wr.length) n_isC n_isR (nd_range' _ _) (fun i h1 h2 => by rw [List.mem_range'_1] at h1 h2; omega) hk hF hP1 hD1
theorem n_callI {Θ : gT} {l : Launch} {D : gD} {cc : ByteArray} {own : String} {nL d K N pc k n : Nat} {lv : List (Nat × Value)} {st : List Value} {ws : va_W} {S : Type} {W1 : S → va_W} {idx maxL d2 k2 n2 b : Nat} {ym : MethodName} {bytes : ByteArray} {As st0 : List Value} {wc : va_W} (np : Nat) (F : nF Θ l D cc own nL d K N) (hC : nC l D d2 ym bytes maxL (.ref b :: As) wc W1 k2 n2) (hk : Cond.methodLink own idx ym ∈ wA) (hi : Cond.instanceMethod ym ∈ wA ∧ Cond.initialized ym.cls ∈ wA) (hc : Cond.code ym bytes maxL none ∈ wA) (hnm : ym.name = "<init>") (hM : ym.cls ≠ "java/lang/invoke/MethodHandle" ∧ ym.cls ≠ "java/lang/invoke/VarHandle" ∧ (parseMethodDescriptor ym.desc).map (fun d => d.parameters.length) = some np) (hn : As.length = np) (hd2 : d2 + 1 ≤ d ∧ maxL + 19 ≤ 64) (hkk : k + k2 ≤ K ∧ n + n2 ≤ N) (hd : decode cc pc = .ok (.invokespecial idx, 3)) (hst : st0 = As.reverse ++ .ref b :: st) (hcat : (st.map fun v => v.category).sum ≤ 8) (kk : ∀ u : S, nW Θ l D nL (pc + 3) lv st (ws ++ W1 u) (k + k2) (n + n2)) : nW Θ l D nL pc lv st0 (ws ++ wc) k n := by
  obtain ⟨p, e, R, s, m, args, below, meth, c, Q, A, H0, cells, slots⟩ := Θ
  obtain ⟨hx, hb, hml, ho, hts, hN, hK, hO, hA, hr1, hr2, hr3, hr4⟩ := F
  intro H locs ls hl hP hD hS
  subst hst
  have hFc : ∀ q, va_A wc H.size q → A q := va_free hD hS hA (List.range' ws.length wc.length) n_isC
  refine va_callv (va_runI (As := As) (rest := st) ⟨hx, hb, hml, ho, hts⟩ (hC H.size) (cwI np hts (wG hc) rfl rfl rfl (hts _ hi.2) (hts _ hk) (hts _ hi.1) hnm hM ⟨by show d2 + 1 ≤ R.frames; omega, by show 8 + (maxL + 11) + 64 * d2 ≤ R.locals; omega⟩) ⟨nC_blind, fun U hU hW => ⟨rfl, by rw [hU], by rw [hU]; exact n_wp hP, va_K.moved hW.alike hK, gNs_warm hW hN, gAo_moved hW.alike hO, n_wr hD⟩⟩ rfl hn hl.1 rfl (lv_room hcat) hd ⟨Nat.le_trans hkk.1 hr3, Nat.le_trans hkk.2 hr4⟩) hS (fun q _ h => hFc q h) hFc (fun u t H1 locs ht hvm hw hB hz1 hk1 hS => ?_)
  obtain ⟨hP1, hD1⟩ := hB
  rw [ht] at hP1
  obtain ⟨hP2, hD2⟩ := n_join hP hD hk1 hFc hP1 hD1
  exact kk u H1 locs ls hl hP2 hD2 hS
theorem n_callN {Θ : gT} {l : Launch} {D : gD} {cc : ByteArray} {own : String} {nL d K N pc k n : Nat} {lv : List (Nat × Value)} {st : List Value} {ws : va_W} {S : Type} {W1 : S → va_W} {idx maxL d2 k2 n2 b : Nat} {ym : MethodName} {bytes : ByteArray} {As st0 : List Value} {wc : va_W} {host : String} (np : Nat) (F : nF Θ l D cc own nL d K N) (hC : nC l D d2 ym bytes maxL (.ref b :: As) wc W1 k2 n2) (hk : Cond.methodLinkNest own idx ym host ∈ wN) (hi : Cond.instanceMethod ym ∈ wA ∧ Cond.initialized ym.cls ∈ wA) (hc : Cond.code ym bytes maxL none ∈ wA) (hnm : ym.name = "<init>") (hM : ym.cls ≠ "java/lang/invoke/MethodHandle" ∧ ym.cls ≠ "java/lang/invoke/VarHandle" ∧ (parseMethodDescriptor ym.desc).map (fun d => d.parameters.length) = some np) (hn : As.length = np) (hd2 : d2 + 1 ≤ d ∧ maxL + 19 ≤ 64) (hkk : k + k2 ≤ K ∧ n + n2 ≤ N) (hd : decode cc pc = .ok (.invokespecial idx, 3)) (hst : st0 = As.reverse ++ .ref b :: st) (hcat : (st.map fun v => v.category).sum ≤ 8) (kk : ∀ u : S, nW Θ l D nL (pc + 3) lv st (ws ++ W1 u) (k + k2) (n + n2)) : nW Θ l D nL pc lv st0 (ws ++ wc) k n := by
  obtain ⟨p, e, R, s, m, args, below, meth, c, Q, A, H0, cells, slots⟩ := Θ
  obtain ⟨hx, hb, hml, ho, hts, hN, hK, hO, hA, hr1, hr2, hr3, hr4⟩ := F
  intro H locs ls hl hP hD hS
  subst hst
  have hFc : ∀ q, va_A wc H.size q → A q := va_free hD hS hA (List.range' ws.length wc.length) n_isC
  refine va_callv (va_runIN (As := As) (rest := st) ⟨hx, hb, hml, ho, hts⟩ (hC H.size) ⟨va_cnB np hts (wG hc) rfl rfl rfl (hN _ hk) (hts _ hi.2) hM ⟨by show d2 + 1 ≤ R.frames; omega, by show 8 + (maxL + 11) + 64 * d2 ≤ R.locals; omega⟩, hnm, hts _ hi.1⟩ ⟨nC_blind, fun U hU hW => ⟨rfl, by rw [hU], by rw [hU]; exact n_wp hP, va_K.moved hW.alike hK, gNs_warm hW hN, gAo_moved hW.alike hO, n_wr hD⟩⟩ rfl hn hl.1 rfl (lv_room hcat) hd ⟨Nat.le_trans hkk.1 hr3, Nat.le_trans hkk.2 hr4⟩) hS (fun q _ h => hFc q h) hFc (fun u t H1 locs ht hvm hw hB hz1 hk1 hS => ?_)
  obtain ⟨hP1, hD1⟩ := hB
  rw [ht] at hP1
  obtain ⟨hP2, hD2⟩ := n_join hP hD hk1 hFc hP1 hD1
  exact kk u H1 locs ls hl hP2 hD2 hS
theorem n_ret {S : Type} {Θ : gT} {l : Launch} {D : gD} {cc : ByteArray} {own : String} {nL d K N pc k n : Nat} {lv : List (Nat × Value)} {st : List Value} {ws : va_W} {ws0 : va_W} {W1 : S → va_W} {k0 n0 : Nat} (F : nF Θ l D cc own nL d K N) (hR : nR Θ D ws0 W1 k0 n0) (hd : decode cc pc = .ok (.return_, 1)) (u : S) (hu : ws = W1 u) (hk : k = k0) (hn : n = n0) : nW Θ l D nL pc lv [] ws k n := by
  obtain ⟨p, e, R, s, m, args, below, meth, c, Q, A, H0, cells, slots⟩ := Θ
  obtain ⟨hx, hb, hml, ho, hts, hN, hK, hO, hA, hr1, hr2, hr3, hr4⟩ := F
  intro H locs ls hl hP hD hS
  obtain ⟨rfl, hret, hlk, rfl, rfl⟩ := hR
  subst hu; subst hk; subst hn
  exact W.vret hx hb hret (fun t ht hW => ⟨⟨u, rfl, trivial, by rw [ht]; exact hP, hD⟩, hS.F ht⟩) hS.2.2 hd hlk
/-- a cell in another form -/
theorem n_cell {Θ : gT} {l : Launch} {D : gD} {nL pc k n : Nat} {lv : List (Nat × Value)} {st : List Value} {ws : va_W} (i : Nat) {a : Nat} {e e' : va_E} (he : ws[i]? = some (a, e)) (hv : ∀ H, va_at D.1 vwCl (a, e) H → va_at D.1 vwCl (a, e') H) (kk : nW Θ l D nL pc lv st (ws.set i (a, e')) k n) : nW Θ l D nL pc lv st ws k n := by
  obtain ⟨p, e1, R, s, m, args, below, meth, c, Q, A, H0, cells, slots⟩ := Θ
  intro H locs ls hl hP hD hS
  refine kk H locs ls hl (fun j q hj => ?_) (hD.set he) hS
  rw [List.getElem?_set] at hj
  split at hj
  · split at hj
    · cases hj
      exact hv H (hP i _ he)
    · cases hj
  · exact hP j q hj
theorem arrV_x {c : ClassId} {n : Nat} {f g : Nat → Value} (h : ∀ j, j < n → f j = g j) : arrV c n f = arrV c n g := by
  unfold arrV
  congr 2
  funext j
  exact h j.1 j.2
theorem qArr_x {D : gD} {a n : Nat} {c : ClassId} {f g : Nat → Option Nat} (h : ∀ j, j < n → f j = g j) (H : Heap) : va_at D.1 vwCl (a, qArr c n f) H → va_at D.1 vwCl (a, qArr c n g) H := fun q => by
  have q : H[a]? = some (vp_cell c (n, .inr (.inr (.inr (.inr f))))) := q
  show H[a]? = some (vp_cell c (n, .inr (.inr (.inr (.inr g)))))
  rw [q, vp_cell_q, vp_cell_q]
  exact congrArg some (arrV_x (fun j hj => by rw [h j hj]))
theorem qInt_x {D : gD} {a n : Nat} {c : ClassId} {f g : Nat → Int32} (h : ∀ j, j < n → f j = g j) (H : Heap) : va_at D.1 vwCl (a, qInt c n f) H → va_at D.1 vwCl (a, qInt c n g) H := fun q => by
  have q : H[a]? = some (vp_cell c (n, .inl f)) := q
  show H[a]? = some (vp_cell c (n, .inl g))
  rw [q, vp_cell_i, vp_cell_i]
  exact congrArg some (arrV_x (fun j hj => by rw [h j hj]))
