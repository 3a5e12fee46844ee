theorem mk_X0_132 : Cond.methodLink RX0 132 Lib.Math.min.name ∈ wA := tA 331 (by decide +kernel) rfl
theorem mk_X0_138 : Cond.methodLink RX0 138 Lib.Math.max.name ∈ wA := tA 334 (by decide +kernel) rfl
theorem mk_X2_35 : Cond.methodLink RX2 35 Lib.Math.min.name ∈ wA := tA 601 (by decide +kernel) rfl
theorem mk_X2_41 : Cond.methodLink RX2 41 Lib.Math.max.name ∈ wA := tA 602 (by decide +kernel) rfl
theorem mk_X4_54 : Cond.methodLink RX4 54 arraycopyName ∈ wA := tA 507 (by decide +kernel) rfl
theorem kM_max : Cond.static Lib.Math.max.name ∈ wA ∧ Cond.initialized "java/lang/Math" ∈ wA ∧ Cond.code Lib.Math.max.name Lib.Math.max.code 2 (some .int) ∈ wA := ⟨tA 335 (by decide +kernel) rfl, tA 9 (by decide +kernel) rfl, tA 336 (by decide +kernel) rfl⟩
theorem kM_min : Cond.static Lib.Math.min.name ∈ wA ∧ Cond.initialized "java/lang/Math" ∈ wA ∧ Cond.code Lib.Math.min.name Lib.Math.min.code 2 (some .int) ∈ wA := ⟨tA 332 (by decide +kernel) rfl, tA 9 (by decide +kernel) rfl, tA 333 (by decide +kernel) rfl⟩
theorem kA_copy : Cond.native arraycopyName ∈ wA ∧ Cond.static arraycopyName ∈ wA ∧ Cond.initialized "java/lang/System" ∈ wA := ⟨tA 509 (by decide +kernel) rfl, tA 508 (by decide +kernel) rfl, tA 11 (by decide +kernel) rfl⟩
/-! contracts over the memory -/
def gRm (d : Nat) : Room := { frames := d, cells := 0, slots := 0, locals := 64 * d }
def gAd (ad : gA) : Nat → Prop := fun q => ∃ w ∈ gIds, q = ad w.1 w.2
def gPre (D : gD) (ad : gA) (x : gX) (y : gY) (U : State) : Prop := gP D ad x y U.heap ∧ gKn D U ∧ gNs U ∧ gAp ad (fun _ => True)
def gQ (D : gD) (ad : gA) (post : Option Value → gX → gY → Prop) : Array Value → State → Outcome → State → Prop := fun _ st oc t => (∃ (v : Option Value) (u : gX) (w : gY), oc = .returned v ∧ post v u w ∧ gP D ad u w t.heap) ∧ va_F (gAd ad) st t
def gC (l : Launch) (D : gD) (ad : gA) (d : Nat) (m : MethodName) (cc : ByteArray) (nL : Nat) (ret : Option FieldType) (av : List Value) (x : gX) (y : gY) (post : Option Value → gX → gY → Prop) : Prop := Met l m (Cond.code m cc nL ret :: wA) (gRm d) (va_Pc av (gPre D ad x y)) (gQ D ad post) 0 0 (gAd ad)
def gR (Θ : gT) (D : gD) (ad : gA) (ret : Option FieldType) (post : Option Value → gX → gY → Prop) : Prop :=
  match Θ with
  | (p, e, R, s, m, args, below, meth, c, Q, A, H0, cells, slots) => Q = MQ below (gQ D ad post) args s 0 0 (gAd ad) ∧ meth.sig.returnType = ret ∧ meth.locks = false ∧ A = gAd ad ∧ H0 = s.heap ∧ cells = 0 ∧ slots = 0
theorem g_met {l : Launch} {D : gD} {ad : gA} {d : Nat} {m : MethodName} {cc : ByteArray} {nL : Nat} {ret : Option FieldType} {av : List Value} {x : gX} {y : gY} {post : Option Value → gX → gY → Prop} (own : String) (ho : m.cls = own) (hy : plainName m.cls = true) (lv : List (Nat × Value)) (hlv : lv_args 0 av = lv) (hav : (lg_sl av).length ≤ nL)
    (body : ∀ Θ : gT, gF Θ l D ad cc own nL d → gR Θ D ad ret post → gW Θ l D ad nL 0 lv [] x y) : gC l D ad d m cc nL ret av x y post := by
  refine Met.ofW (cc := cc) (maxL := nL) (ret := ret) hy rfl ?_
  intro p e s m1 args below meth c s₁ B hml hv
  obtain ⟨rfl, hP, hK, hN, hAp⟩ := hv
  have hts := atoms_spec (ws := Cond.code m cc nL ret :: wA) B.pre
  have hl := lv_entry av (n := nL) hav
  rw [lg_entry_eq]
  rw [hlv] at hl
  exact body (p, e, (headSpec (Cond.code m cc nL ret :: wA) (gRm d)).room, s, m1, av.toArray, below, meth, c, MQ below (gQ D ad post) av.toArray s 0 0 (gAd ad), gAd ad, s.heap, 0, 0)
    ⟨B.exec, B.bytes, hml, ho ▸ findClass_of_methodNamed B.named, fun w hw => hts w (List.mem_cons_of_mem _ hw), hN, hK, ⟨hAp.1, fun q hq => ⟨q, hq, rfl⟩⟩, Nat.le_refl _, Nat.le_refl _, Nat.zero_le _, Nat.zero_le _⟩
    ⟨rfl, B.returns, B.notSynchronized, rfl, rfl, rfl, rfl⟩ s.heap [] _ hl hP va_S.rf
theorem g_ireturn {Θ : gT} {l : Launch} {D : gD} {ad : gA} {cc : ByteArray} {own : String} {nL d pc : Nat} {lv : List (Nat × Value)} {x : gX} {y : gY} {post : Option Value → gX → gY → Prop} {v : Int32} (F : gF Θ l D ad cc own nL d) (hR : gR Θ D ad (some .int) post) (hd : decode cc pc = .ok (.ireturn, 1))  (hp : post (some (.int v)) x y) : gW Θ l D ad nL pc lv [.int v] x y := by
  obtain ⟨p, e, R, s, m, args, below, meth, c, Q, A, H0, cells, slots⟩ := Θ
  obtain ⟨hx, hb, hml, ho, hts, hN, hK, hAp, hr1, hr2, hr3, hr4⟩ := F
  obtain ⟨rfl, hret, hlk, rfl, rfl, rfl, rfl⟩ := hR
  intro H locs ls hl hP hS
  exact W.iret hx hb hret (fun t ht hW => ⟨⟨_, x, y, rfl, hp, by rw [ht]; exact hP⟩, hS.F ht⟩) hS.2.2 hd hlk
theorem g_lreturn {Θ : gT} {l : Launch} {D : gD} {ad : gA} {cc : ByteArray} {own : String} {nL d pc : Nat} {lv : List (Nat × Value)} {x : gX} {y : gY} {post : Option Value → gX → gY → Prop} {v : Int64} (F : gF Θ l D ad cc own nL d) (hR : gR Θ D ad (some .long) post) (hd : decode cc pc = .ok (.lreturn, 1))  (hp : post (some (.long v)) x y) : gW Θ l D ad nL pc lv [.long v] x y := by
  obtain ⟨p, e, R, s, m, args, below, meth, c, Q, A, H0, cells, slots⟩ := Θ
  obtain ⟨hx, hb, hml, ho, hts, hN, hK, hAp, hr1, hr2, hr3, hr4⟩ := F
  obtain ⟨rfl, hret, hlk, rfl, rfl, rfl, rfl⟩ := hR
  intro H locs ls hl hP hS
  exact W.lret hx hb hret (fun t ht hW => ⟨⟨_, x, y, rfl, hp, by rw [ht]; exact hP⟩, hS.F ht⟩) hS.2.2 hd hlk
theorem g_zreturn {Θ : gT} {l : Launch} {D : gD} {ad : gA} {cc : ByteArray} {own : String} {nL d pc : Nat} {lv : List (Nat × Value)} {x : gX} {y : gY} {post : Option Value → gX → gY → Prop} {a : Int} (F : gF Θ l D ad cc own nL d) (hR : gR Θ D ad (some .boolean) post) (hd : decode cc pc = .ok (.ireturn, 1)) (hz : a = 0 ∨ a = 1) (hp : post (some (.int (J a))) x y) : gW Θ l D ad nL pc lv [.int (J a)] x y := by
  obtain ⟨p, e, R, s, m, args, below, meth, c, Q, A, H0, cells, slots⟩ := Θ
  obtain ⟨hx, hb, hml, ho, hts, hN, hK, hAp, hr1, hr2, hr3, hr4⟩ := F
  obtain ⟨rfl, hret, hlk, rfl, rfl, rfl, rfl⟩ := hR
  intro H locs ls hl hP hS
  exact W.zret hx hb hret (by rcases hz with rfl | rfl <;> rfl) (fun t ht hW => ⟨⟨_, x, y, rfl, hp, by rw [ht]; exact hP⟩, hS.F ht⟩) hS.2.2 hd hlk
theorem g_areturn {Θ : gT} {l : Launch} {D : gD} {ad : gA} {cc : ByteArray} {own : String} {nL d pc : Nat} {lv : List (Nat × Value)} {x : gX} {y : gY} {post : Option Value → gX → gY → Prop} {q : Nat} {nm : String} (F : gF Θ l D ad cc own nL d) (hR : gR Θ D ad (some (.object nm)) post) (hd : decode cc pc = .ok (.areturn, 1))  (hp : post (some (.ref q)) x y) : gW Θ l D ad nL pc lv [.ref q] x y := by
  obtain ⟨p, e, R, s, m, args, below, meth, c, Q, A, H0, cells, slots⟩ := Θ
  obtain ⟨hx, hb, hml, ho, hts, hN, hK, hAp, hr1, hr2, hr3, hr4⟩ := F
  obtain ⟨rfl, hret, hlk, rfl, rfl, rfl, rfl⟩ := hR
  intro H locs ls hl hP hS
  exact W.aret hx hb hret (Or.inl ⟨_, rfl⟩) (Or.inr ⟨_, rfl⟩) (fun t ht hW => ⟨⟨_, x, y, rfl, hp, by rw [ht]; exact hP⟩, hS.F ht⟩) hS.2.2 hd hlk
theorem g_vreturn {Θ : gT} {l : Launch} {D : gD} {ad : gA} {cc : ByteArray} {own : String} {nL d pc : Nat} {lv : List (Nat × Value)} {x : gX} {y : gY} {post : Option Value → gX → gY → Prop}  (F : gF Θ l D ad cc own nL d) (hR : gR Θ D ad none post) (hd : decode cc pc = .ok (.return_, 1))  (hp : post (none) x y) : gW Θ l D ad nL pc lv [] x y := by
  obtain ⟨p, e, R, s, m, args, below, meth, c, Q, A, H0, cells, slots⟩ := Θ
  obtain ⟨hx, hb, hml, ho, hts, hN, hK, hAp, hr1, hr2, hr3, hr4⟩ := F
  obtain ⟨rfl, hret, hlk, rfl, rfl, rfl, rfl⟩ := hR
  intro H locs ls hl hP hS
  exact W.vret hx hb hret (fun t ht hW => ⟨⟨_, x, y, rfl, hp, by rw [ht]; exact hP⟩, hS.F ht⟩) hS.2.2 hd hlk
def gRv (D : gD) (ad : gA) (x : gX) (y : gY) (C : String) (a : Nat) : Prop := ∀ (s : State) (H : Heap), gKn D s → gP D ad x y H → ∃ cell : Cell, H[a]? = some cell ∧ cell.vm.isStatics = false ∧ s.vm.findClass C = some cell.cls
theorem gR_0 {D : gD} {ad : gA} {x : gX} {y : gY}  : gRv D ad x y RX0 (ad 0 0) := fun s H hK hP => va_recv hK hP (ci := 0) rfl (gV_at gI_0)
theorem gR_1 {D : gD} {ad : gA} {x : gX} {y : gY} {i : Int} (hi : 0 ≤ i ∧ i < 4) : gRv D ad x y RX1 (ad 1 i) := fun s H hK hP => va_recv hK hP (ci := 1) rfl (gV_at (gI_1 hi))
theorem gR_2 {D : gD} {ad : gA} {x : gX} {y : gY}  : gRv D ad x y RX2 (ad 2 0) := fun s H hK hP => va_recv hK hP (ci := 2) rfl (gV_at gI_2)
theorem gR_3 {D : gD} {ad : gA} {x : gX} {y : gY} {i : Int} (hi : 0 ≤ i ∧ i < 7) : gRv D ad x y RX3 (ad 3 i) := fun s H hK hP => va_recv hK hP (ci := 3) rfl (gV_at (gI_3 hi))
theorem gR_4 {D : gD} {ad : gA} {x : gX} {y : gY}  : gRv D ad x y RX4 (ad 4 0) := fun s H hK hP => va_recv hK hP (ci := 4) rfl (gV_at gI_4)
theorem gR_5 {D : gD} {ad : gA} {x : gX} {y : gY}  : gRv D ad x y RX5 (ad 5 0) := fun s H hK hP => va_recv hK hP (ci := 5) rfl (gV_at gI_5)
theorem gR_6 {D : gD} {ad : gA} {x : gX} {y : gY} {i : Int} (hi : 0 ≤ i ∧ i < 10) : gRv D ad x y RX6 (ad 6 i) := fun s H hK hP => va_recv hK hP (ci := 6) rfl (gV_at (gI_6 hi))
theorem gR_7 {D : gD} {ad : gA} {x : gX} {y : gY}  : gRv D ad x y RX7 (ad 7 0) := fun s H hK hP => va_recv hK hP (ci := 7) rfl (gV_at gI_7)
theorem gC_blind {D : gD} {ad : gA} {x : gX} {y : gY} {av : List Value} : FrameBlind (va_Pc av (gPre D ad x y)) := fun a U g mk q => by
  obtain ⟨q0, qP, qK, qN, qA⟩ := q
  exact ⟨q0, qP, va_K.moved (u := U) (U := U.calling g mk a) (Vm.Alike.refl U.vm) qK, gNs_vm (u := U) (U := U.calling g mk a) rfl qN, qA⟩
theorem gC_pre {D : gD} {ad : gA} {x : gX} {y : gY} {av : List Value} {s : State} {H : Heap} {A : Nat → Prop} (hP : gP D ad x y H) (hK : gKn D s) (hN : gNs s) (hAp : gAp ad A) : ∀ U : State, U.heap = H → s.WarmedH U.vm → va_Pc av (gPre D ad x y) av.toArray U :=
  fun U hU hW => ⟨rfl, by rw [hU]; exact hP, va_K.moved hW.alike hK, gNs_warm hW hN, hAp.1, fun _ _ => trivial⟩
theorem g_cont {p : Program} {l : Launch} {e : Env} {R : Room} {s : State} {m : MethodId} {args : Array Value} {below : List Frame} {meth : Method} {c : Code} {H H0 : Heap} {locs : List Loc} {cells slots : Nat} {Q : State → Prop} {D : gD} {ad : gA} {nL pc : Nat} {lv : List (Nat × Value)} {ls : Array Slot} {st st0 : List Value} {A : Nat → Prop} {a : Array Value} {post : Option Value → gX → gY → Prop}
    (hr : va_Run p l e R s m args below meth c H locs cells slots 0 0 (F0 m pc ls st0) st (gQ D ad post a) (gAd ad)) (hS : va_S A H0 H locs) (hl : lv_has ls nL lv) (hAp : gAp ad A)
    (kk : ∀ (v : Option Value) (u : gX) (w : gY), post v u w → gW (p, e, R, s, m, args, below, meth, c, Q, A, H0, cells, slots) l D ad nL (pc + 3) lv (v.toList ++ st) u w) : W p l e R s m args below meth c H locs cells slots Q (F0 m pc ls st0) := by
  have hAd : ∀ q, gAd ad q → A q := fun q h => by obtain ⟨w, hw, rfl⟩ := h; exact hAp.2 w hw
  intro T hT X
  obtain ⟨v, st₀, t, T', L, h0, X', hL, e1, e2, ⟨⟨v', u, w, hv, hp, hP⟩, hz, hk⟩, sg⟩ := hr T hT X
  cases hv
  rw [h0] at hz hk
  obtain ⟨t2, a1, b1⟩ := kk v u w hp T'.heap (locs ++ L) ls hl (by rw [e1]; exact hP)
    ⟨Nat.le_trans hS.1 (by rw [e1]; exact hz), fun q h1 h2 => by rw [e1, hk q (Nat.lt_of_lt_of_le h1 hS.1) (fun z => h2 (hAd q z))]; exact hS.2.1 q h1 h2, fun q hq => by
      rcases List.mem_append.mp hq with h | h
      · exact hS.2.2 q h
      · exact hAd _ (hL q h)⟩ T' rfl X'
  exact ⟨t2, sg t2 a1, b1⟩
theorem g_callV {Θ : gT} {l : Launch} {D : gD} {ad : gA} {cc : ByteArray} {own : String} {nL d pc : Nat} {lv : List (Nat × Value)} {st : List Value} {x : gX} {y : gY} {C : String} {a idx maxL d2 : Nat} {ym : MethodName} {bytes : ByteArray} {ret : Option FieldType} {As st0 : List Value} {post : Option Value → gX → gY → Prop} (n : Nat) (F : gF Θ l D ad cc own nL d) (hC : gC l D ad d2 ym bytes maxL ret (.ref a :: As) x y post) (hv : gRv D ad x y C a) (hcls : ym.cls = C) (hk : Cond.methodLink own idx ym ∈ wA) (hi : Cond.instanceMethod ym ∈ wA ∧ Cond.selects C ym ym ∈ wA ∧ Cond.initialized C ∈ wA) (hc : Cond.code ym bytes maxL ret ∈ wA) (hM : ym.cls ≠ "java/lang/invoke/MethodHandle" ∧ ym.cls ≠ "java/lang/invoke/VarHandle" ∧ (parseMethodDescriptor ym.desc).map (fun d => d.parameters.length) = some n) (hn : As.length = n) (hd2 : d2 + 1 ≤ d ∧ maxL + 19 ≤ 64) (hd : decode cc pc = .ok (.invokevirtual idx, 3)) (hst : st0 = As.reverse ++ .ref a :: st) (hcat : (st.map fun v => v.category).sum ≤ 8) (kk : ∀ (v : Option Value) (u : gX) (w : gY), post v u w → gW Θ l D ad nL (pc + 3) lv (v.toList ++ st) u w) : gW Θ l D ad nL pc lv st0 x y := by
  obtain ⟨p, e, R, s, m, args, below, meth, c, Q, A, H0, cells, slots⟩ := Θ
  obtain ⟨hx, hb, hml, ho, hts, hN, hK, hAp, hr1, hr2, hr3, hr4⟩ := F
  intro H locs ls hl hP hS
  subst hst
  subst hcls
  exact g_cont (va_runV (As := As) (rest := st) ⟨hx, hb, hml, ho, hts⟩ hC (n := n) ⟨callB_of n hts (wG hc) rfl rfl rfl (hts _ hi.2.2) (hts _ hk) ⟨hM.1, hM.2.1, hM.2.2⟩ ⟨by show d2 + 1 ≤ R.frames; omega, by show 8 + (maxL + 11) + 64 * d2 ≤ R.locals; omega⟩, hts _ hi.1, hts _ hi.2.1⟩ ⟨gC_blind, hv s H hK hP, gC_pre hP hK hN hAp⟩ rfl hn hl.1 rfl (lv_room hcat) hd ⟨hr3, hr4⟩) hS hl hAp kk
theorem g_callS {Θ : gT} {l : Launch} {D : gD} {ad : gA} {cc : ByteArray} {own : String} {nL d pc : Nat} {lv : List (Nat × Value)} {st : List Value} {x : gX} {y : gY} {idx maxL d2 : Nat} {ym : MethodName} {bytes : ByteArray} {ret : Option FieldType} {C : String} {As st0 : List Value} {post : Option Value → gX → gY → Prop} (n : Nat) (F : gF Θ l D ad cc own nL d) (hC : gC l D ad d2 ym bytes maxL ret As x y post) (hcls : ym.cls = C) (hk : Cond.methodLink own idx ym ∈ wA) (hi : Cond.static ym ∈ wA ∧ Cond.initialized C ∈ wA) (hc : Cond.code ym bytes maxL ret ∈ wA) (hM : ym.cls ≠ "java/lang/invoke/MethodHandle" ∧ ym.cls ≠ "java/lang/invoke/VarHandle" ∧ (parseMethodDescriptor ym.desc).map (fun d => d.parameters.length) = some n) (hn : As.length = n) (hd2 : d2 + 1 ≤ d ∧ maxL + 19 ≤ 64) (hd : decode cc pc = .ok (.invokestatic idx, 3)) (hst : st0 = As.reverse ++ st) (hcat : (st.map fun v => v.category).sum ≤ 8) (kk : ∀ (v : Option Value) (u : gX) (w : gY), post v u w → gW Θ l D ad nL (pc + 3) lv (v.toList ++ st) u w) : gW Θ l D ad nL pc lv st0 x y := by
  obtain ⟨p, e, R, s, m, args, below, meth, c, Q, A, H0, cells, slots⟩ := Θ
  obtain ⟨hx, hb, hml, ho, hts, hN, hK, hAp, hr1, hr2, hr3, hr4⟩ := F
  intro H locs ls hl hP hS
  subst hst
  subst hcls
  exact g_cont (va_runS (As := As) (rest := st) ⟨hx, hb, hml, ho, hts⟩ hC (n := n) ⟨callB_of n hts (wG hc) rfl rfl rfl (hts _ hi.2) (hts _ hk) ⟨hM.1, hM.2.1, hM.2.2⟩ ⟨by show d2 + 1 ≤ R.frames; omega, by show 8 + (maxL + 11) + 64 * d2 ≤ R.locals; omega⟩, hts _ hi.1⟩ ⟨gC_blind, gC_pre hP hK hN hAp⟩ rfl hn hl.1 rfl (lv_room hcat) hd ⟨hr3, hr4⟩) hS hl hAp kk
/-- an answer, and the memory behind it -/
abbrev pI (r : Int) (X : gX) (Y : gY) : Option Value → gX → gY → Prop := fun v u w => v = some (.int (J r)) ∧ u = X ∧ w = Y
abbrev pB (c : Prop) [Decidable c] (X : gX) (Y : gY) : Option Value → gX → gY → Prop := fun v u w => v = some (.int (J (if c then 1 else 0))) ∧ u = X ∧ w = Y
abbrev pL (r : Int) (X : gX) (Y : gY) : Option Value → gX → gY → Prop := fun v u w => v = some (.long (Lg r)) ∧ u = X ∧ w = Y
abbrev pV (X : gX) (Y : gY) : Option Value → gX → gY → Prop := fun v u w => v = none ∧ u = X ∧ w = Y
abbrev pR (a : Nat) (X : gX) (Y : gY) : Option Value → gX → gY → Prop := fun v u w => v = some (.ref a) ∧ u = X ∧ w = Y
theorem pI_i {r r' : Int} {X X' : gX} {Y Y' : gY} (h : r = r') (h1 : X = X') (h2 : Y = Y') : pI r' X' Y' (some (.int (J r))) X Y := ⟨by rw [h], h1, h2⟩
theorem pB_i {c : Prop} [Decidable c] {r : Int} {X X' : gX} {Y Y' : gY} (h : r = if c then 1 else 0) (h1 : X = X') (h2 : Y = Y') : pB c X' Y' (some (.int (J r))) X Y := ⟨by rw [h], h1, h2⟩
theorem pL_i {r r' : Int} {X X' : gX} {Y Y' : gY} (h : r = r') (h1 : X = X') (h2 : Y = Y') : pL r' X' Y' (some (.long (Lg r))) X Y := ⟨by rw [h], h1, h2⟩
theorem pV_i {X X' : gX} {Y Y' : gY} (h1 : X = X') (h2 : Y = Y') : pV X' Y' none X Y := ⟨rfl, h1, h2⟩
theorem pR_i {r r' : Nat} {X X' : gX} {Y Y' : gY} (h : r = r') (h1 : X = X') (h2 : Y = Y') : pR r' X' Y' (some (.ref r)) X Y := ⟨by rw [h], h1, h2⟩
theorem pI_k {Θ : gT} {l : Launch} {D : gD} {ad : gA} {nL pc : Nat} {lv : List (Nat × Value)} {st : List Value} {X : gX} {Y : gY} {r : Int} (h : gW Θ l D ad nL pc lv (.int (J r) :: st) X Y) : ∀ (v : Option Value) (u : gX) (w : gY), pI r X Y v u w → gW Θ l D ad nL pc lv (v.toList ++ st) u w := by
  rintro v u w ⟨rfl, rfl, rfl⟩; exact h
theorem pB_k {Θ : gT} {l : Launch} {D : gD} {ad : gA} {nL pc : Nat} {lv : List (Nat × Value)} {st : List Value} {X : gX} {Y : gY} {c : Prop} [Decidable c] (h : gW Θ l D ad nL pc lv (.int (J (if c then 1 else 0)) :: st) X Y) : ∀ (v : Option Value) (u : gX) (w : gY), pB c X Y v u w → gW Θ l D ad nL pc lv (v.toList ++ st) u w := by
  rintro v u w ⟨rfl, rfl, rfl⟩; exact h
theorem pL_k {Θ : gT} {l : Launch} {D : gD} {ad : gA} {nL pc : Nat} {lv : List (Nat × Value)} {st : List Value} {X : gX} {Y : gY} {r : Int} (h : gW Θ l D ad nL pc lv (.long (Lg r) :: st) X Y) : ∀ (v : Option Value) (u : gX) (w : gY), pL r X Y v u w → gW Θ l D ad nL pc lv (v.toList ++ st) u w := by
  rintro v u w ⟨rfl, rfl, rfl⟩; exact h
theorem pV_k {Θ : gT} {l : Launch} {D : gD} {ad : gA} {nL pc : Nat} {lv : List (Nat × Value)} {st : List Value} {X : gX} {Y : gY}  (h : gW Θ l D ad nL pc lv (st) X Y) : ∀ (v : Option Value) (u : gX) (w : gY), pV  X Y v u w → gW Θ l D ad nL pc lv (v.toList ++ st) u w := by
  rintro v u w ⟨rfl, rfl, rfl⟩; exact h
theorem pR_k {Θ : gT} {l : Launch} {D : gD} {ad : gA} {nL pc : Nat} {lv : List (Nat × Value)} {st : List Value} {X : gX} {Y : gY} {a : Nat} (h : gW Θ l D ad nL pc lv (.ref a :: st) X Y) : ∀ (v : Option Value) (u : gX) (w : gY), pR a X Y v u w → gW Θ l D ad nL pc lv (v.toList ++ st) u w := by
  rintro v u w ⟨rfl, rfl, rfl⟩; exact h
theorem J_max {a b : Int} (ha : i32 a) (hb : i32 b) : (if J a < J b then J b else J a) = J (max a b) := by
  by_cases h : a < b
  · rw [if_pos ((J_lt ha hb).mpr h)]; congr 1; omega
  · rw [if_neg (fun q => h ((J_lt ha hb).mp q))]; congr 1; omega
theorem J_min {a b : Int} (ha : i32 a) (hb : i32 b) : (if J b < J a then J b else J a) = J (min a b) := by
  by_cases h : b < a
  · rw [if_pos ((J_lt hb ha).mpr h)]; congr 1; omega
  · rw [if_neg (fun q => h ((J_lt hb ha).mp q))]; congr 1; omega
theorem g_max {Θ : gT} {l : Launch} {D : gD} {ad : gA} {cc : ByteArray} {own : String} {nL d pc : Nat} {lv : List (Nat × Value)} {st : List Value} {x : gX} {y : gY} {idx : Nat} {a b : Int} (F : gF Θ l D ad cc own nL d) (hk : Cond.methodLink own idx Lib.Math.max.name ∈ wA) (h1 : 1 ≤ d) (ha : i32 a) (hb2 : i32 b) (hd : decode cc pc = .ok (.invokestatic idx, 3)) (hcat : (st.map fun v => v.category).sum ≤ 8) (kk : gW Θ l D ad nL (pc + 3) lv (.int (J (max a b)) :: st) x y) : gW Θ l D ad nL pc lv (.int (J b) :: .int (J a) :: st) x y := by
  obtain ⟨p, e, R, s, m, args, below, meth, c, Q, A, H0, cells, slots⟩ := Θ
  obtain ⟨hx, hb, hml, ho, hts, hN, hK, hAp, hr1, hr2, hr3, hr4⟩ := F
  intro H locs ls hl hP hS
  refine va_mmax hx hb (by rw [hml, hl.1]) ho (hts _ hk) (hts _ kM_max.1) (hts _ kM_max.2.1) (hts _ kM_max.2.2) (by omega) (by omega) hr3 hr4 hd ?_
  rw [J_max ha hb2]
  exact kk H locs ls hl hP hS
theorem g_min {Θ : gT} {l : Launch} {D : gD} {ad : gA} {cc : ByteArray} {own : String} {nL d pc : Nat} {lv : List (Nat × Value)} {st : List Value} {x : gX} {y : gY} {idx : Nat} {a b : Int} (F : gF Θ l D ad cc own nL d) (hk : Cond.methodLink own idx Lib.Math.min.name ∈ wA) (h1 : 1 ≤ d) (ha : i32 a) (hb2 : i32 b) (hd : decode cc pc = .ok (.invokestatic idx, 3)) (hcat : (st.map fun v => v.category).sum ≤ 8) (kk : gW Θ l D ad nL (pc + 3) lv (.int (J (min a b)) :: st) x y) : gW Θ l D ad nL pc lv (.int (J b) :: .int (J a) :: st) x y := by
  obtain ⟨p, e, R, s, m, args, below, meth, c, Q, A, H0, cells, slots⟩ := Θ
  obtain ⟨hx, hb, hml, ho, hts, hN, hK, hAp, hr1, hr2, hr3, hr4⟩ := F
  intro H locs ls hl hP hS
  refine va_mmin hx hb (by rw [hml, hl.1]) ho (hts _ hk) (hts _ kM_min.1) (hts _ kM_min.2.1) (hts _ kM_min.2.2) (by omega) (by omega) hr3 hr4 hd ?_
  rw [J_min ha hb2]
  exact kk H locs ls hl hP hS
def xC (x : gX) (k i dp n : Int) (f : Int → Int) : gX := fun k1 i1 j1 => if k1 = k ∧ i1 = i ∧ dp ≤ j1 ∧ j1 < dp + n then f (j1 - dp) else x k1 i1 j1
theorem gE_c {cI cR cM cD : ClassId} {ad : gA} {x : gX} {y : gY} {i dp n : Int} {f g : Int → Int} {a0 a1 a2 : Nat} (h0 : 0 ≤ n) (e1 : (a1 : Int) = dp) (e2 : (a2 : Int) = n) (hf : ∀ q : Int, 0 ≤ q → q < n → f q = g ((a0 : Int) + q)) (k1 i1 : Int) : gE cI cR cM cD ad (xC x 20 i dp n f) y k1 i1 = if k1 = 20 ∧ i1 = i then .inl (cI, (if i < 6 then 40 else 60), .inl (va_cpy (fun j => J (g (j : Int))) (fun j => J (x 20 i (j : Int))) a0 a1 a2)) else gE cI cR cM cD ad x y k1 i1 := by
  by_cases hk : k1 = 20
  · subst hk
    show gE20 cI cR cM cD ad (xC x 20 i dp n f) y i1 = if 20 = 20 ∧ i1 = i then .inl (cI, (if i < 6 then 40 else 60), .inl (va_cpy (fun j => J (g (j : Int))) (fun j => J (x 20 i (j : Int))) a0 a1 a2)) else gE20 cI cR cM cD ad x y i1
    by_cases h2 : i1 = i
    · rw [h2, if_pos ⟨rfl, rfl⟩]
      have e9 : (fun (w : Nat) => J (xC x 20 i dp n f 20 i (w : Int))) = va_cpy (fun j => J (g (j : Int))) (fun j => J (x 20 i (j : Int))) a0 a1 a2 := by
        funext w
        unfold va_cpy xC
        by_cases hw : a1 ≤ w ∧ w < a1 + a2
        · rw [if_pos hw, if_pos ⟨rfl, rfl, by omega, by omega⟩, hf _ (by omega) (by omega)]
          congr 2; omega
        · rw [if_neg hw, if_neg (by rintro ⟨-, -, q1, q2⟩; exact hw ⟨by omega, by omega⟩)]
      rw [← e9]; rfl
    · rw [if_neg (fun q => h2 q.2)]
      have e9 : xC x 20 i dp n f 20 i1 = x 20 i1 := by funext j1; simp [xC, h2]
      simp only [gE20, e9]
  · rw [if_neg (fun q => hk q.1)]
    unfold gE
    refine ite_congr rfl (fun _ => rfl) (fun _ => ?_)
    refine ite_congr rfl (fun _ => rfl) (fun _ => ?_)
    refine ite_congr rfl (fun _ => rfl) (fun _ => ?_)
    refine ite_congr rfl (fun _ => rfl) (fun _ => ?_)
    refine ite_congr rfl (fun _ => rfl) (fun _ => ?_)
    refine ite_congr rfl (fun _ => rfl) (fun _ => ?_)
    refine ite_congr rfl (fun _ => rfl) (fun _ => ?_)
    refine ite_congr rfl (fun _ => rfl) (fun _ => ?_)
    refine ite_congr rfl (fun h => absurd h hk) (fun _ => ?_)
    refine ite_congr rfl (fun _ => rfl) (fun _ => ?_)
    refine ite_congr rfl (fun _ => rfl) (fun _ => ?_)
    refine ite_congr rfl (fun _ => rfl) (fun _ => ?_)
    refine ite_congr rfl (fun _ => rfl) (fun _ => ?_)
    refine ite_congr rfl (fun _ => rfl) (fun _ => ?_)
    refine ite_congr rfl (fun _ => rfl) (fun _ => ?_)
    refine ite_congr rfl (fun _ => rfl) (fun _ => ?_)
    refine ite_congr rfl (fun _ => rfl) (fun _ => ?_)
    refine ite_congr rfl (fun _ => rfl) (fun _ => ?_)
    refine ite_congr rfl (fun _ => rfl) (fun _ => ?_)
    refine ite_congr rfl (fun _ => rfl) (fun _ => ?_)
    refine ite_congr rfl (fun _ => rfl) (fun _ => ?_)
    refine ite_congr rfl (fun _ => rfl) (fun _ => ?_)
    rfl
theorem g_copyRow {Θ : gT} {l : Launch} {D : gD} {ad : gA} {cc : ByteArray} {own : String} {nL d pc : Nat} {lv : List (Nat × Value)} {st : List Value} {x : gX} {y : gY} {idx : Nat} {i0 i sp dp n : Int} (F : gF Θ l D ad cc own nL d) (hi0 : 0 ≤ i0 ∧ i0 < 10) (hi : 0 ≤ i ∧ i < 10) (hk : Cond.methodLink own idx arraycopyName ∈ wA) (h1 : 1 ≤ d) (hs : 0 ≤ sp) (hdp : 0 ≤ dp) (hn : 0 ≤ n) (hsn : sp + n ≤ (if i0 < 6 then 40 else 60)) (hdn : dp + n ≤ (if i < 6 then 40 else 60)) (hd : decode cc pc = .ok (.invokestatic idx, 3)) (hcat : (st.map fun v => v.category).sum ≤ 8) (kk : gW Θ l D ad nL (pc + 3) lv st (xC x 20 i dp n (fun q => x 20 i0 (sp + q))) y) : gW Θ l D ad nL pc lv (.int (J n) :: .int (J dp) :: .ref (ad 20 i) :: .int (J sp) :: .ref (ad 20 i0) :: st) x y := by
  obtain ⟨p, e, R, s, m, args, below, meth, c, Q, A, H0, cells, slots⟩ := Θ
  obtain ⟨hx, hb, hml, ho, hts, hN, hK, hAp, hr1, hr2, hr3, hr4⟩ := F
  intro H locs ls hl hP hS
  have b1 : sp + n ≤ 60 := by split at hsn <;> omega
  have b2 : dp + n ≤ 60 := by split at hdn <;> omega
  have s1 : i32 sp := ⟨by omega, by omega⟩
  have s2 : i32 dp := ⟨by omega, by omega⟩
  have s3 : i32 n := ⟨by omega, by omega⟩
  have z0 : i32 0 := ⟨by decide, by decide⟩
  have ng : ∀ a : Int, i32 a → 0 ≤ a → ¬ J a < 0 := fun a ha h q => by rw [J_0, J_lt ha z0] at q; omega
  refine va_copyi (D := D.1) (ty := .int) hx hb (by rw [hml, hl.1]) ho (hts _ hk) (hts _ kA_copy.1) (hts _ kA_copy.2.1) (hts _ kA_copy.2.2) hK hP (gAp_D hAp) hS ((26 + i0).toNat) ((26 + i).toNat) 0 0 (gV_at (gI_20 hi0)) (gV_at (gI_20 hi)) rfl rfl rfl (ng _ s1 hs) (ng _ s2 hdp) (ng _ s3 hn) ?_ ?_ (fun _ _ => rfl) (by omega) ?_ hd (fun H locs hP _ hS => kk H locs ls hl ?_ hS)
  · rw [J_cl s1, J_cl s3]; split <;> (rename_i q; simp only [q, if_true, if_false] at hsn; omega)
  · rw [J_cl s2, J_cl s3]; split <;> (rename_i q; simp only [q, if_true, if_false] at hdn; omega)
  · have h9 : nativeFrameWords "java/lang/System" "arraycopy" 5 + 11 ≤ 56 := by decide +kernel
    omega
  · refine Eq.mp (congrArg (fun q => va_P D.1 vwCl q H) (gV_set (gI_20 hi) ?_)) hP
    intro k1 i1
    exact gE_c hn (by rw [J_cl s2]; omega) (by rw [J_cl s3]; omega) (fun q _ _ => by rw [J_cl s1]; congr 1; omega) k1 i1
theorem g_copyPath {Θ : gT} {l : Launch} {D : gD} {ad : gA} {cc : ByteArray} {own : String} {nL d pc : Nat} {lv : List (Nat × Value)} {st : List Value} {x : gX} {y : gY} {idx : Nat} {i0 i sp dp n : Int} (F : gF Θ l D ad cc own nL d) (hi : 0 ≤ i ∧ i < 10) (hk : Cond.methodLink own idx arraycopyName ∈ wA) (h1 : 1 ≤ d) (hs : 0 ≤ sp) (hdp : 0 ≤ dp) (hn : 0 ≤ n) (hsn : sp + n ≤ 6) (hdn : dp + n ≤ (if i < 6 then 40 else 60)) (hd : decode cc pc = .ok (.invokestatic idx, 3)) (hcat : (st.map fun v => v.category).sum ≤ 8) (kk : gW Θ l D ad nL (pc + 3) lv st (xC x 20 i dp n (fun q => x 24 0 (sp + q))) y) : gW Θ l D ad nL pc lv (.int (J n) :: .int (J dp) :: .ref (ad 20 i) :: .int (J sp) :: .ref (ad 24 0) :: st) x y := by
  obtain ⟨p, e, R, s, m, args, below, meth, c, Q, A, H0, cells, slots⟩ := Θ
  obtain ⟨hx, hb, hml, ho, hts, hN, hK, hAp, hr1, hr2, hr3, hr4⟩ := F
  intro H locs ls hl hP hS
  have b1 : sp + n ≤ 60 := by omega
  have b2 : dp + n ≤ 60 := by split at hdn <;> omega
  have s1 : i32 sp := ⟨by omega, by omega⟩
  have s2 : i32 dp := ⟨by omega, by omega⟩
  have s3 : i32 n := ⟨by omega, by omega⟩
  have z0 : i32 0 := ⟨by decide, by decide⟩
  have ng : ∀ a : Int, i32 a → 0 ≤ a → ¬ J a < 0 := fun a ha h q => by rw [J_0, J_lt ha z0] at q; omega
  refine va_copyi (D := D.1) (ty := .int) hx hb (by rw [hml, hl.1]) ho (hts _ hk) (hts _ kA_copy.1) (hts _ kA_copy.2.1) (hts _ kA_copy.2.2) hK hP (gAp_D hAp) hS (45) ((26 + i).toNat) 0 0 (gV_at gI_24) (gV_at (gI_20 hi)) rfl rfl rfl (ng _ s1 hs) (ng _ s2 hdp) (ng _ s3 hn) ?_ ?_ (fun _ _ => rfl) (by omega) ?_ hd (fun H locs hP _ hS => kk H locs ls hl ?_ hS)
  · rw [J_cl s1, J_cl s3]; omega
  · rw [J_cl s2, J_cl s3]; split <;> (rename_i q; simp only [q, if_true, if_false] at hdn; omega)
  · have h9 : nativeFrameWords "java/lang/System" "arraycopy" 5 + 11 ≤ 56 := by decide +kernel
    omega
  · refine Eq.mp (congrArg (fun q => va_P D.1 vwCl q H) (gV_set (gI_20 hi) ?_)) hP
    intro k1 i1
    exact gE_c hn (by rw [J_cl s2]; omega) (by rw [J_cl s3]; omega) (fun q _ _ => by rw [J_cl s1]; congr 1; omega) k1 i1
theorem g_topi {Θ : gT} {l : Launch} {D : gD} {ad : gA} {nL pc : Nat} {lv : List (Nat × Value)} {st : List Value} {x : gX} {y : gY} {a b : Int} (h : a = b) (k : gW Θ l D ad nL pc lv (.int (J b) :: st) x y) : gW Θ l D ad nL pc lv (.int (J a) :: st) x y := by rw [h]; exact k
theorem g_topl {Θ : gT} {l : Launch} {D : gD} {ad : gA} {nL pc : Nat} {lv : List (Nat × Value)} {st : List Value} {x : gX} {y : gY} {a b : Int} (h : a = b) (k : gW Θ l D ad nL pc lv (.long (Lg b) :: st) x y) : gW Θ l D ad nL pc lv (.long (Lg a) :: st) x y := by rw [h]; exact k
theorem g_mx {Θ : gT} {l : Launch} {D : gD} {ad : gA} {nL pc : Nat} {lv : List (Nat × Value)} {st : List Value} {x : gX} {y : gY} {X : gX} (h : x = X) (k : gW Θ l D ad nL pc lv st X y) : gW Θ l D ad nL pc lv st x y := by rw [h]; exact k
theorem g_my {Θ : gT} {l : Launch} {D : gD} {ad : gA} {nL pc : Nat} {lv : List (Nat × Value)} {st : List Value} {x : gX} {y : gY} {Y : gY} (h : y = Y) (k : gW Θ l D ad nL pc lv st x Y) : gW Θ l D ad nL pc lv st x y := by rw [h]; exact k
