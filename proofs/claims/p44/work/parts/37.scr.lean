/-! the script, and methods that read it -/
def gScr (Θ : gT) (b L : Nat) (sc : Int → Int) : Prop :=
  match Θ with
  | (p, e, R, s, m, args, below, meth, c, Q, A, H0, cells, slots) => ∃ xs : Nat → Int32, va_X b L xs s H0 ∧ b < H0.size ∧ ¬ A b ∧ ∀ j : Int, sc j = (xs j.toNat).toInt
theorem sc_r {Θ : gT} {b L : Nat} {sc : Int → Int} (h : gScr Θ b L sc) (j : Int) : i32 (sc j) := by
  obtain ⟨p, e, R, s, m, args, below, meth, c, Q, A, H0, cells, slots⟩ := Θ
  obtain ⟨xs, -, -, -, h⟩ := h
  rw [h j]
  exact ⟨by have := Int32.le_toInt (xs j.toNat); omega, by have := Int32.toInt_lt (xs j.toNat); omega⟩
theorem g_sld {Θ : gT} {l : Launch} {D : gD} {ad : gA} {cc : ByteArray} {own : String} {nL d pc b L : Nat} {lv : List (Nat × Value)} {st : List Value} {x : gX} {y : gY} {sc : Int → Int} {j : Int} (F : gF Θ l D ad cc own nL d) (hX : gScr Θ b L sc) (hj : 0 ≤ j ∧ j < (L : Int)) (hL : L ≤ 3072) (hd : decode cc pc = .ok (.iaload, 1)) (kk : gW Θ l D ad nL (pc + 1) lv (.int (J (sc j)) :: st) x y) : gW Θ l D ad nL pc lv (.int (J j) :: .ref b :: st) x y := by
  obtain ⟨p, e, R, s, m, args, below, meth, c, Q, A, H0, cells, slots⟩ := Θ
  obtain ⟨hx, hb, hml, ho, hts, hN, hK, hAp, hr1, hr2, hr3, hr4⟩ := F
  obtain ⟨xs, hXs, hbl, hbA, hsc⟩ := hX
  intro H locs ls hl hP hS
  refine va_sld hx hb hXs hbl hbA hS (J_in hj.1 hj.2 (by omega)) hd ?_
  rw [J_cl ⟨by omega, by omega⟩, show xs j.toNat = J (sc j) by rw [hsc j]; exact (Int32.ofInt_toInt _).symm]
  exact kk H locs ls hl hP hS
theorem ofNat_J {L : Nat} (hL : L ≤ 3072) : Int32.ofNat L = J (L : Int) := by
  apply Int32.toInt_inj.mp
  rw [J_toInt ⟨by omega, by omega⟩]
  exact Int32.toInt_ofNat_of_lt (by omega)
theorem g_slen {Θ : gT} {l : Launch} {D : gD} {ad : gA} {cc : ByteArray} {own : String} {nL d pc b L : Nat} {lv : List (Nat × Value)} {st : List Value} {x : gX} {y : gY} {sc : Int → Int} (F : gF Θ l D ad cc own nL d) (hX : gScr Θ b L sc) (hL : L ≤ 3072) (hd : decode cc pc = .ok (.arraylength, 1)) (kk : gW Θ l D ad nL (pc + 1) lv (.int (J (L : Int)) :: st) x y) : gW Θ l D ad nL pc lv (.ref b :: st) x y := by
  obtain ⟨p, e, R, s, m, args, below, meth, c, Q, A, H0, cells, slots⟩ := Θ
  obtain ⟨hx, hb, hml, ho, hts, hN, hK, hAp, hr1, hr2, hr3, hr4⟩ := F
  obtain ⟨xs, hXs, hbl, hbA, hsc⟩ := hX
  intro H locs ls hl hP hS
  refine va_slen hx hb hXs hbl hbA hS hd ?_
  rw [ofNat_J hL]
  exact kk H locs ls hl hP hS
def gPreS (D : gD) (ad : gA) (x : gX) (y : gY) (b L : Nat) (sc : Int → Int) (U : State) : Prop := gPre D ad x y U ∧ ∃ xs : Nat → Int32, va_X b L xs U U.heap ∧ b < U.heap.size ∧ ¬ gAd ad b ∧ ∀ j : Int, sc j = (xs j.toNat).toInt
def gCS (l : Launch) (D : gD) (ad : gA) (d : Nat) (m : MethodName) (cc : ByteArray) (nL : Nat) (ret : Option FieldType) (av : List Value) (x : gX) (y : gY) (b L : Nat) (sc : Int → Int) (post : Option Value → gX → gY → Prop) : Prop := Met l m (Cond.code m cc nL ret :: wA) (gRm d) (va_Pc av (gPreS D ad x y b L sc)) (gQ D ad post) 0 0 (gAd ad)
theorem g_metS {l : Launch} {D : gD} {ad : gA} {d : Nat} {m : MethodName} {cc : ByteArray} {nL : Nat} {ret : Option FieldType} {av : List Value} {x : gX} {y : gY} {b L : Nat} {sc : Int → Int} {post : Option Value → gX → gY → Prop} (own : String) (ho : m.cls = own) (hy : plainName m.cls = true) (lv : List (Nat × Value)) (hlv : lv_args 0 av = lv) (hav : (lg_sl av).length ≤ nL)
    (body : ∀ Θ : gT, gF Θ l D ad cc own nL d → gScr Θ b L sc → gR Θ D ad ret post → gW Θ l D ad nL 0 lv [] x y) : gCS l D ad d m cc nL ret av x y b L sc post := by
  refine Met.ofW (cc := cc) (maxL := nL) (ret := ret) hy rfl ?_
  intro p e s m1 args below meth c s₁ B hml hv
  obtain ⟨rfl, ⟨hP, hK, hN, hAp⟩, xs, hX, hbl, hbA, hsc⟩ := hv
  have hts := atoms_spec (ws := Cond.code m cc nL ret :: wA) B.pre
  have hl := lv_entry av (n := nL) hav
  rw [lg_entry_eq]
  rw [hlv] at hl
  exact body (p, e, (headSpec (Cond.code m cc nL ret :: wA) (gRm d)).room, s, m1, av.toArray, below, meth, c, MQ below (gQ D ad post) av.toArray s 0 0 (gAd ad), gAd ad, s.heap, 0, 0)
    ⟨B.exec, B.bytes, hml, ho ▸ findClass_of_methodNamed B.named, fun w hw => hts w (List.mem_cons_of_mem _ hw), hN, hK, ⟨hAp.1, fun q hq => ⟨q, hq, rfl⟩⟩, Nat.le_refl _, Nat.le_refl _, Nat.zero_le _, Nat.zero_le _⟩
    ⟨xs, hX, hbl, hbA, hsc⟩
    ⟨rfl, B.returns, B.notSynchronized, rfl, rfl, rfl, rfl⟩ s.heap [] _ hl hP va_S.rf
theorem gCS_blind {D : gD} {ad : gA} {x : gX} {y : gY} {av : List Value} {b L : Nat} {sc : Int → Int} : FrameBlind (va_Pc av (gPreS D ad x y b L sc)) := fun a U g mk q => by
  obtain ⟨q0, ⟨qP, qK, qN, qA⟩, xs, hX, hb, hA, hs⟩ := q
  exact ⟨q0, ⟨qP, va_K.moved (u := U) (U := U.calling g mk a) (Vm.Alike.refl U.vm) qK, gNs_vm (u := U) (U := U.calling g mk a) rfl qN, qA⟩, xs, va_X.moved (u := U) (U := U.calling g mk a) (Vm.Alike.refl U.vm) hX, hb, hA, hs⟩
theorem gCS_pre {D : gD} {ad : gA} {x : gX} {y : gY} {av : List Value} {s : State} {H H0 : Heap} {A : Nat → Prop} {locs : List Loc} {b L : Nat} {xs : Nat → Int32} {sc : Int → Int} (hP : gP D ad x y H) (hK : gKn D s) (hN : gNs s) (hAp : gAp ad A) (hS : va_S A H0 H locs) (hX : va_X b L xs s H0) (hbl : b < H0.size) (hbA : ¬ A b) (hsc : ∀ j : Int, sc j = (xs j.toNat).toInt) : ∀ U : State, U.heap = H → s.WarmedH U.vm → va_Pc av (gPreS D ad x y b L sc) av.toArray U :=
  fun U hU hW => ⟨rfl, ⟨by rw [hU]; exact hP, va_K.moved hW.alike hK, gNs_warm hW hN, hAp.1, fun _ _ => trivial⟩, xs, by rw [hU]; exact va_X.moved hW.alike (va_X.kept hX (hS.2.1 b hbl hbA)), by rw [hU]; exact Nat.lt_of_lt_of_le hbl hS.1, fun ⟨w, hw, e⟩ => hbA (by rw [e]; exact hAp.2 w hw), hsc⟩
theorem g_callSS {Θ : gT} {l : Launch} {D : gD} {ad : gA} {cc : ByteArray} {own : String} {nL d pc : Nat} {lv : List (Nat × Value)} {st : List Value} {x : gX} {y : gY} {idx maxL d2 b L : Nat} {sc : Int → Int} {ym : MethodName} {bytes : ByteArray} {ret : Option FieldType} {C : String} {As st0 : List Value} {post : Option Value → gX → gY → Prop} (n : Nat) (F : gF Θ l D ad cc own nL d) (hX : gScr Θ b L sc) (hC : gCS l D ad d2 ym bytes maxL ret As x y b L sc post) (hcls : ym.cls = C) (hk : Cond.methodLink own idx ym ∈ wA) (hi : Cond.static ym ∈ wA ∧ Cond.initialized C ∈ wA) (hc : Cond.code ym bytes maxL ret ∈ wA) (hM : ym.cls ≠ "java/lang/invoke/MethodHandle" ∧ ym.cls ≠ "java/lang/invoke/VarHandle" ∧ (parseMethodDescriptor ym.desc).map (fun d => d.parameters.length) = some n) (hn : As.length = n) (hd2 : d2 + 1 ≤ d ∧ maxL + 19 ≤ 64) (hd : decode cc pc = .ok (.invokestatic idx, 3)) (hst : st0 = As.reverse ++ st) (hcat : (st.map fun v => v.category).sum ≤ 8) (kk : ∀ (v : Option Value) (u : gX) (w : gY), post v u w → gW Θ l D ad nL (pc + 3) lv (v.toList ++ st) u w) : gW Θ l D ad nL pc lv st0 x y := by
  obtain ⟨p, e, R, s, m, args, below, meth, c, Q, A, H0, cells, slots⟩ := Θ
  obtain ⟨hx, hb, hml, ho, hts, hN, hK, hAp, hr1, hr2, hr3, hr4⟩ := F
  intro H locs ls hl hP hS
  obtain ⟨xs, hXs, hbl, hbA, hsc⟩ := hX
  subst hst
  subst hcls
  exact g_cont (va_runS (As := As) (rest := st) ⟨hx, hb, hml, ho, hts⟩ hC (n := n) ⟨callB_of n hts (wG hc) rfl rfl rfl (hts _ hi.2) (hts _ hk) ⟨hM.1, hM.2.1, hM.2.2⟩ ⟨by show d2 + 1 ≤ R.frames; omega, by show 8 + (maxL + 11) + 64 * d2 ≤ R.locals; omega⟩, hts _ hi.1⟩ ⟨gCS_blind, gCS_pre hP hK hN hAp hS hXs hbl hbA hsc⟩ rfl hn hl.1 rfl (lv_room hcat) hd ⟨hr3, hr4⟩) hS hl hAp kk
theorem g_nm {Θ : gT} {l : Launch} {D : gD} {ad : gA} {nL pc : Nat} {lv : List (Nat × Value)} {st : List Value} {x : gX} {y : gY} {P : gX → Prop} (hP : P x) (kk : ∀ u, P u → gW Θ l D ad nL pc lv st u y) : gW Θ l D ad nL pc lv st x y := kk x hP
theorem g_nmy {Θ : gT} {l : Launch} {D : gD} {ad : gA} {nL pc : Nat} {lv : List (Nat × Value)} {st : List Value} {x : gX} {y : gY} {P : gY → Prop} (hP : P y) (kk : ∀ w, P w → gW Θ l D ad nL pc lv st x w) : gW Θ l D ad nL pc lv st x y := kk y hP
theorem g_nmi {Θ : gT} {l : Launch} {D : gD} {ad : gA} {nL pc : Nat} {lv : List (Nat × Value)} {st : List Value} {x : gX} {y : gY} {a : Int} {P : Int → Prop} (hP : P a) (kk : ∀ i, P i → gW Θ l D ad nL pc lv (.int (J i) :: st) x y) : gW Θ l D ad nL pc lv (.int (J a) :: st) x y := kk a hP
theorem g_nml {Θ : gT} {l : Launch} {D : gD} {ad : gA} {nL pc : Nat} {lv : List (Nat × Value)} {st : List Value} {x : gX} {y : gY} {a : Int} {P : Int → Prop} (hP : P a) (kk : ∀ i, P i → gW Θ l D ad nL pc lv (.long (Lg i) :: st) x y) : gW Θ l D ad nL pc lv (.long (Lg a) :: st) x y := kk a hP
/-- an answer, and what holds of both memories behind it -/
abbrev pP (val : Value) (P : gX → gY → Prop) : Option Value → gX → gY → Prop := fun v u w => v = some val ∧ P u w
theorem pP_z {a b : Int} {P : gX → gY → Prop} {X : gX} {Y : gY} (h : a = b) (hP : P X Y) : pP (.int (J b)) P (some (.int (J a))) X Y := ⟨by rw [h], hP⟩
theorem pP_k {Θ : gT} {l : Launch} {D : gD} {ad : gA} {nL pc : Nat} {lv : List (Nat × Value)} {st : List Value} {val : Value} {P : gX → gY → Prop} (h : ∀ u w, P u w → gW Θ l D ad nL pc lv (val :: st) u w) : ∀ (v : Option Value) (u : gX) (w : gY), pP val P v u w → gW Θ l D ad nL pc lv (v.toList ++ st) u w := by
  rintro v u w ⟨rfl, hP⟩; exact h u w hP
/-! masks and shifts -/
def anZ (a b : Int) : Int := (J a &&& J b).toInt
theorem J_an (a b : Int) : J a &&& J b = J (anZ a b) := (Int32.ofInt_toInt _).symm
theorem anZ_r {a m : Int} (h : 0 ≤ m ∧ m < 2147483648) : 0 ≤ anZ a m ∧ anZ a m ≤ m := by
  obtain ⟨k, rfl⟩ : ∃ k : Nat, m = k := ⟨m.toNat, by omega⟩
  have e : ((J (k : Int)).toBitVec).toNat = k := by
    rw [J_nI]
    show (BitVec.ofNat 32 k).toNat = k
    rw [BitVec.toNat_ofNat]
    exact Nat.mod_eq_of_lt (by omega)
  have q : ((J a &&& J (k : Int)).toBitVec).toNat ≤ k := by
    show ((J a).toBitVec &&& (J (k : Int)).toBitVec).toNat ≤ k
    rw [BitVec.toNat_and, e]
    exact Nat.and_le_right
  have t : anZ a (k : Int) = (((J a &&& J (k : Int)).toBitVec).toNat : Int) := by
    show ((J a &&& J (k : Int)).toBitVec).toInt = _
    exact BitVec.toInt_eq_toNat_of_lt (by omega)
  omega
def shZ (a k : Int) : Int := (J a >>> (J k &&& 31)).toInt
theorem J_sh (a k : Int) : J a >>> (J k &&& 31) = J (shZ a k) := (Int32.ofInt_toInt _).symm
theorem J_shr {a i : Int} (ha : 0 ≤ a ∧ a < 2147483648) (hi : 0 ≤ i ∧ i ≤ 30) : J a >>> (J i &&& 31) = J (a / p2 i) := by
  obtain ⟨n, rfl⟩ : ∃ n : Nat, a = n := ⟨a.toNat, by omega⟩
  obtain ⟨k, rfl⟩ : ∃ k : Nat, i = k := ⟨i.toNat, by omega⟩
  have hk : k < 31 := by omega
  have hs : ((J (k : Int) &&& 31).toBitVec.smod 32).toNat = k := by
    have key : ∀ n : Nat, n < 31 → ((J (n : Int) &&& 31).toBitVec.smod 32).toNat = n := by decide +kernel
    exact key k hk
  rw [J_nI n, pk_shrN (by omega) _ k hs, ← J_nI]
  congr 1
theorem J_shr1 {a : Int} (ha : 0 ≤ a ∧ a < 2147483648) : J a >>> (J 1 &&& 31) = J (a / 2) := J_shr (i := 1) ha ⟨by decide, by decide⟩
/-- a number's bit -/
theorem J_bt {a i : Int} (ha : 0 ≤ a ∧ a < 2147483648) (hi : 0 ≤ i ∧ i ≤ 30) : J (a / p2 i) &&& J 1 = J (a / p2 i % 2) := by
  rw [← J_bit ha hi, J_shr ha hi]
def clZ (sc : Int → Int) (L : Nat) (k : Int) : Int := if k < (L : Int) then sc k else 40503 * (k + 7)
def lwZ (v n : Int) : Int := anZ v 2147483647 % n
theorem lwZ_r {v n : Int} (h : 1 ≤ n) : 0 ≤ lwZ v n ∧ lwZ v n < n := ⟨Int.emod_nonneg _ (by omega), Int.emod_lt_of_pos _ (by omega)⟩
def ltrZ (k : Int) : Int := if k = 0 then 109 else if k = 1 then 112 else if k = 2 then 99 else if k = 3 then 119 else if k = 4 then 120 else 110
