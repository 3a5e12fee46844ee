/-! THE CLAIM OUT OF ONE WALK OF THE LAW'S BODY. Your part is whole_start (and what it stands on); all else here is the same for every law, but numbers. -/
def R_law : String := "ThirdDayLaw"
def lw_P (b : Addr) (xs : List Int32) (args : Array Value) (s : State) : Prop := args = #[.ref b] ∧ s.IntsAt b xs ∧ xs.length ≤ 260 ∧ (Jvm.Cond.and given_1 narrow_1).before args s = true
def lw_Q (_ : Array Value) (s : State) (o : Outcome) (t : State) : Prop := o = .returned (some (.int 1)) ∧ Framed s o t [] 600000 7302250
def lw_Z (below : List Frame) (a : Array Value) (s : State) : State → Prop := fun t => ∃ o, t.status = .running ∧ Ended t below o ∧ lw_Q a s o t
/-- the law's own end, with 1 on the stack, nothing written that was there before, its room as the claim has it -/
theorem lw_ret {p : Program} {l : Launch} {e : Env} {s : State} {m : MethodId} {below : List Frame} {meth : Method} {c : Code} {b : Nat} (hx : p.tables.exec = Jvm.exec) (hb : c.code = code) (hr : meth.sig.returnType = ret) (hlocks : meth.locks = false) {pc : Nat} {H : Heap} {ls : Array Slot} (hdg : decode code pc = .ok (.ireturn, 1)) : W p l e room_1 s m #[Value.ref b] below meth c H [] 600000 7302250 (lw_Z below #[Value.ref b] s) (F0 m pc ls [.int 1]) := by
  intro T hT X
  obtain ⟨fs, hret, hrun, hended, hW, hframe⟩ := X.leave (v := some (.int 1)) (hlocks := hlocks) (fun h => by rw [hr] at h; cases h)
  have hmeth' : T.vm.method? m = some meth := X.method'
  refine ⟨T.setFrames fs, ?_, .returned (some (.int 1)), hrun, hended, rfl, ⟨_, rfl⟩, hW, hframe⟩
  jvm_step X.here [X.here.top, hx, hb, hdg, hmeth', hr, ret, narrow_b1]
  (try refine ⟨rfl, ?_⟩); (try refine ⟨rfl, ?_⟩)
  first | (intro acts; rw [hret _ acts rfl rfl rfl]) | rw [hret _ _ rfl rfl rfl]
  exact Steps.refl _
/-- what holds at the law's entry: the machine, the code, the tables' words (any of lw_tbl by 'hts w (by decide +kernel)'), the script of L ints xs at the cell b, what the Statement gives of the start (any of its parts by flat_of_before) -/
def lw_At (p : Program) (s : State) (m : MethodId) (meth : Method) (c : Code) (b L : Nat) (xs : Nat → Int32) : Prop :=
  p.tables.exec = Jvm.exec ∧ c.code = code ∧ meth.sig.returnType = ret ∧ c.maxLocals = 37 ∧ s.vm.findClass R_law = some m.cls ∧ (∀ w ∈ lw_tbl, w.before #[Value.ref b] s = true) ∧ va_X b L xs s s.heap ∧ b < s.heap.size ∧ meth.locks = false ∧ (Jvm.Cond.and given_1 narrow_1).before #[Value.ref b] s = true
set_option maxHeartbeats 4000000 in
set_option maxRecDepth 100000 in
/-- YOUR PART: from the entry, for every script of at most 260 ints, the law comes to its end with true ('hflags': the launch's flags, for a law that throws: no stack traces) -/
theorem whole_start {p : Program} {e : Env} {s : State} {m : MethodId} {below : List Frame} {meth : Method} {c : Code} (l : Launch) (hflags : l.flags = flags0) {b L : Nat} {xs : Nat → Int32} (hL : L ≤ 260) (C0 : lw_At p s m meth c b L xs) : W p l e room_1 s m #[Value.ref b] below meth c s.heap [] 0 0 (lw_Z below #[Value.ref b] s) (entryFrame m ([Value.ref b] : List Value).toArray 37) := by
  obtain ⟨hx, hb, hr, hml, hown, hts, hX, hbl, hlocks, hgv⟩ := C0
  have hbA : ¬ (fun q : Nat => s.heap.size ≤ q) b := Nat.not_le.mpr hbl
  have hi : ∀ w ∈ wA, w.before #[Value.ref b] s = true := fun w hw => hts w (wA_in hw)
  have hN : gNs s := fun w hw => by
    have h2 := (List.mem_filter.mp hw).2
    have h3 := hts w (wN_in hw)
    cases w <;> first | (exact va_Nw.of rfl h3) | (exact absurd h2 (by simp [isNest]))
  have hO : gAo s := ⟨va_AO.of (hts (.arrayOver (.object RX6)) (List.mem_append_right _ (List.mem_of_getElem? (i := 21) (by decide +kernel)))), va_AO.of (hts (.arrayOver (.object RX3)) (List.mem_append_right _ (List.mem_of_getElem? (i := 51) (by decide +kernel)))), va_AO.of (hts (.arrayOver (.object RX1)) (List.mem_append_right _ (List.mem_of_getElem? (i := 149) (by decide +kernel))))⟩
  obtain ⟨c0, i0, h0⟩ := u_known (ws := wA) (C := RX0) (T := TX0) (N := 9) (n := 9) hi lA0 (hi (.instantiable RX0 9) (tA 45 (by decide +kernel) rfl))
  obtain ⟨c1, i1, h1⟩ := u_known (ws := wA) (C := RX1) (T := TX1) (N := 3) (n := 3) hi lA1 (hi (.instantiable RX1 3) (tA 93 (by decide +kernel) rfl))
  obtain ⟨c2, i2, h2⟩ := u_known (ws := wA) (C := RX2) (T := TX2) (N := 2) (n := 2) hi lA2 (hi (.instantiable RX2 2) (tA 164 (by decide +kernel) rfl))
  obtain ⟨c3, i3, h3⟩ := u_known (ws := wA) (C := RX3) (T := TX3) (N := 7) (n := 7) hi lA3 (hi (.instantiable RX3 7) (tA 52 (by decide +kernel) rfl))
  obtain ⟨c4, i4, h4⟩ := u_known (ws := wA) (C := RX4) (T := TX4) (N := 2) (n := 2) hi lA4 (hi (.instantiable RX4 2) (tA 151 (by decide +kernel) rfl))
  obtain ⟨c5, i5, h5⟩ := u_known (ws := wA) (C := RX5) (T := TX5) (N := 4) (n := 4) hi lA5 (hi (.instantiable RX5 4) (tA 23 (by decide +kernel) rfl))
  obtain ⟨c6, i6, h6⟩ := u_known (ws := wA) (C := RX6) (T := TX6) (N := 2) (n := 2) hi lA6 (hi (.instantiable RX6 2) (tA 176 (by decide +kernel) rfl))
  obtain ⟨c7, i7, h7⟩ := u_known (ws := wA) (C := RX7) (T := TX7) (N := 12) (n := 12) hi lA7 (hi (.instantiable RX7 12) (tA 13 (by decide +kernel) rfl))
  obtain ⟨cI, kI, mI, a1, a2, a3⟩ := Cond.arrayClass_spec (hi (.arrayClass .int) kAr)
  obtain ⟨mR, cR, kR, p1R, p2R, p3R, p4R, p5R⟩ := Cond.arrayOver_spec hO.1
  obtain ⟨mM, cM, kM, p1M, p2M, p3M, p4M, p5M⟩ := Cond.arrayOver_spec hO.2.1
  obtain ⟨mD, cD, kD, p1D, p2D, p3D, p4D, p5D⟩ := Cond.arrayOver_spec hO.2.2
  obtain ⟨dC, dI, hKc⟩ : ∃ (dC : Nat → ClassId) (dI : Nat → Nat → Nat), ∀ (k : Nat) (q : vw_C), vwCl[k]? = some q → u_Kn s q.1 q.2.1 q.2.2 (dC k) (dI k) := by
    refine ⟨fun k => if k = 0 then c0 else if k = 1 then c1 else if k = 2 then c2 else if k = 3 then c3 else if k = 4 then c4 else if k = 5 then c5 else if k = 6 then c6 else c7, fun k => if k = 0 then i0 else if k = 1 then i1 else if k = 2 then i2 else if k = 3 then i3 else if k = 4 then i4 else if k = 5 then i5 else if k = 6 then i6 else i7, ?_⟩
    intro k q hq
    match k, hq with
    | 0, hq => cases hq; exact h0
    | 1, hq => cases hq; exact h1
    | 2, hq => cases hq; exact h2
    | 3, hq => cases hq; exact h3
    | 4, hq => cases hq; exact h4
    | 5, hq => cases hq; exact h5
    | 6, hq => cases hq; exact h6
    | 7, hq => cases hq; exact h7
    | k + 8, hq => simp [vwCl] at hq
  obtain ⟨D, hD0⟩ : ∃ D : gD, D = ((dC, dI), cI, cR, cM, cD) := ⟨_, rfl⟩
  have hK : gKn D s := by
    rw [hD0]
    refine ⟨hKc, fun k q hq => ?_⟩
    match k, hq with
    | 0, hq => cases hq; exact ⟨fun n z => ⟨fun k h => (by cases h), kI, a2, mI, a3⟩, a1⟩
    | 1, hq => cases hq; exact ⟨fun n z => ⟨fun k h => (by cases h), kR, p3R, mR, p4R⟩, kR, mR, p3R, p4R, p1R, p5R⟩
    | 2, hq => cases hq; exact ⟨fun n z => ⟨fun k h => (by cases h), kM, p3M, mM, p4M⟩, kM, mM, p3M, p4M, p1M, p5M⟩
    | 3, hq => cases hq; exact ⟨fun n z => ⟨fun k h => (by cases h), kD, p3D, mD, p4D⟩, kD, mD, p3D, p4D, p1D, p5D⟩
    | k + 4, hq => simp [gTys] at hq
  obtain ⟨Θ, hΘ⟩ : ∃ Θ : gT, Θ = (p, e, room_1, s, m, #[Value.ref b], below, meth, c, lw_Z below #[Value.ref b] s, (fun q : Nat => s.heap.size ≤ q), s.heap, 0, 0) := ⟨_, rfl⟩
  have F : nF Θ l D cL_law RL 37 20 600000 7302250 := by
    rw [hΘ]
    exact ⟨hx, hb, hml, hown, hi, hN, hK, hO, fun q h => h, (Nat.le_of_ble_eq_true rfl), (Nat.le_of_ble_eq_true rfl), Nat.le_refl _, Nat.le_refl _⟩
  have start : nW Θ l D 37 0 [(0, .ref b)] [] [] 0 0 := by
    refine n_new (ci := 7) (fs := [.null, .null, .null, .null, .null, .null, .null, .null, .int (J (0)), .int (J (0)), .long (Lg (0)), .long (Lg (0))]) F lA7 tyX7 tyX7_ok (tA 12 (by decide +kernel) rfl) (tA 13 (by decide +kernel) rfl) ki_X7_init.2 rfl fs7_ok (Nat.le_of_ble_eq_true rfl) (Nat.le_of_ble_eq_true rfl) dL_law_0 (fun q1 => ?_)
    refine n_dup F dL_law_3 rfl ?_
    refine n_callI 0 F (As := []) (st := [.ref q1]) (c_X7_init l D q1) mk_L_86 ki_X7_init kc_X7_init rfl (by decide +kernel) rfl (by decide) ⟨(Nat.le_of_ble_eq_true rfl), (Nat.le_of_ble_eq_true rfl)⟩ dL_law_4 rfl (Nat.le_of_ble_eq_true rfl) (fun u => ?_)
    refine n_ws (ws' := gVX D (adX q1 u) xN) (k' := 53) (n' := 1031) rfl rfl rfl ?_
    refine n_astore_n F [(1, .ref q1), (0, .ref b)] dL_law_7 rfl (by decide) rfl ?_
    refine n_bipush F dL_law_8 29 (by decide) ?_
    refine n_newa F 29 dL_law_10 rfl (by decide) (Nat.le_of_ble_eq_true rfl) (Nat.le_of_ble_eq_true rfl) (fun q2 => ?_)
    refine n_astore_n F [(2, .ref q2), (1, .ref q1), (0, .ref b)] dL_law_12 rfl (by decide) rfl ?_
    refine n_bipush F dL_law_13 16 (by decide) ?_
    refine n_newa F 16 dL_law_15 rfl (by decide) (Nat.le_of_ble_eq_true rfl) (Nat.le_of_ble_eq_true rfl) (fun q3 => ?_)
    refine n_astore_n F [(3, .ref q3), (2, .ref q2), (1, .ref q1), (0, .ref b)] dL_law_17 rfl (by decide) rfl ?_
    refine n_bipush F dL_law_18 6 (by decide) ?_
    refine n_newa F 6 dL_law_20 rfl (by decide) (Nat.le_of_ble_eq_true rfl) (Nat.le_of_ble_eq_true rfl) (fun q4 => ?_)
    refine n_ws (ws' := gV D.2.1 D.2.2.1 D.2.2.2.1 D.2.2.2.2 (adG q2 q3 q4 (adX q1 u)) xN yN) (k' := 56) (n' := 1082) rfl rfl rfl ?_
    refine n_g F (Nat.le_of_ble_eq_true rfl) (Nat.le_of_ble_eq_true rfl) (fun F2 => ?_)
    have hScr : gScr (gSet Θ 56 1082) b L (fun j => (xs j.toNat).toInt) := by
      rw [hΘ]
      exact ⟨xs, hX, hbl, hbA, fun _ => rfl⟩
    refine law_S F2 hScr hL (fun j => sc_r hScr j) INV_xN (fun _ _ _ => rfl) (fun x1 y1 lv1 => ?_)
    have e1 : J 1 = 1 := by decide +kernel
    rw [e1, hΘ]
    intro H locs ls hl hP hS
    refine va_forget (fun q hq => hS.2.2 q hq) ?_
    refine W.widen (k := 600000) (n := 7302250) (Nat.le_of_ble_eq_true rfl) (Nat.le_of_ble_eq_true rfl) ?_
    exact lw_ret hx hb hr hlocks dL_law_2129
  rw [hΘ] at start
  have hl := lv_entry ([.ref b]) (n := 37) (Nat.le_of_ble_eq_true rfl)
  rw [lg_entry_eq]
  generalize (lg_sl ([.ref b]) ++ List.replicate (37 - (lg_sl ([.ref b])).length) Slot.unset).toArray = ls at hl ⊢
  exact start s.heap [] ls hl (fun k q h => by simp at h) ⟨fun i j p q h => by simp at h, fun k q h => by simp at h⟩ va_S.rf
