/-! deeds upon a court, told, undone -/
def TK (z r : gX) (i : Int) (v : gX) : Prop := EXT z v ∧ v 17 = r 17 ∧ v 20 = r 20 ∧ v 16 0 0 = z 16 0 0 + 1 ∧ v 6 i 0 = vU z i (z 15 0 0) ∧ twU v = twU z + (if sWr (z 2 i 0) (vU z i (z 15 0 0)) then 1 else 0) ∧ tcU v = tcU z + (if vU z i (z 15 0 0) = 1 then 1 else 0) ∧ v 15 0 0 = sBeh (z 14 0 0) (vU z i (z 15 0 0)) (tcU z + (if vU z i (z 15 0 0) = 1 then 1 else 0)) (z 15 0 0) ∧ v 19 0 0 = (if sWr (z 2 i 0) (vU z i (z 15 0 0)) then 1 else 0)
theorem tri_kp {z r u : gX} (A : KP z r u) (h16 : z 16 0 0 ≤ 39) {i : Int} (h0 : 0 ≤ i) (h1 : i < z 10 0 0) (h6 : z 6 i 0 = -9) : (sTrial u i).1 = vU z i (z 15 0 0) ∧ TK z r i (sTrial u i).2 := by
  have hu := KP_I A
  have e10 := KP_10 A
  have e := A.1.2.1
  have u6 : u 6 i 0 = -9 := by rw [e 6 i 0 (by omega)]; exact h6
  have ev : vU u i (u 15 0 0) = vU z i (z 15 0 0) := by rw [e 15 0 0 (by omega)]; exact vU_cE e h0 h1 _
  have t := tri_ok hu (by rw [A.1.2.2]; omega) h0 (by rw [e10]; exact h1) u6
  have p := per2_t h0 (show i < u 10 0 0 by rw [e10]; exact h1) u6 (INV_UW hu i h0 (by rw [e10]; exact h1) u6)
  have e2 : u 2 i 0 = z 2 i 0 := e 2 i 0 (by omega)
  rw [ev, e2] at t p
  obtain ⟨t1, ⟨s1, s2, s3, s4, s5⟩, t3⟩ := t
  obtain ⟨p1, p2', p3, p4⟩ := p
  have c : cE (perM u 2 i 10 0 0) (perM u 2 i) (sTrial u i).2 := by rw [per_10]; exact s2
  have q6 : perM u 2 i 6 i 0 = vU z i (z 15 0 0) := by rw [per2 h0 (by rw [e10]; exact h1) (by omega), if_pos ⟨rfl, rfl⟩, ev]
  rw [twU_cE e] at p1
  rw [tcU_cE e] at p2' p4
  rw [e 14 0 0 (by omega), e 15 0 0 (by omega)] at p4
  exact ⟨t1, EXT_tr A.1.1 s1, s4.trans A.2.1, s5.trans A.2.2, by rw [s3, A.1.2.2], (s2 6 i 0 (by omega)).trans q6, (twU_cE c).trans p1, (tcU_cE c).trans p2', (s2 15 0 0 (by omega)).trans p4, t3⟩
theorem tri_no {z r u : gX} (A : KP z r u) {i : Int} (h0 : 0 ≤ i) (h1 : i < z 10 0 0) (h6 : z 6 i 0 ≠ -9) : (sTrial u i).1 = -4 ∧ KP z r (sTrial u i).2 := by
  have e : sTrial u i = (-4, u) := by
    unfold sTrial
    rw [if_neg (fun c => c ⟨h0, by rw [KP_10 A]; exact h1⟩), if_pos (by rw [A.1.2.1 6 i 0 (by omega)]; exact h6)]
  rw [e]
  exact ⟨rfl, A⟩
theorem undo_k {z r u : gX} {m : Int} (hz : INV z) (E : EXT z u) (h16 : u 16 0 0 = z 16 0 0 + m) (h17 : u 17 = r 17) (h20 : u 20 = r 20) : (sUndo u (z 16 0 0)).1 = m ∧ KP z r (sUndo u (z 16 0 0)).2 := ⟨by rw [sU_undo hz E]; show u 16 0 0 - z 16 0 0 = m; omega, KP_undo hz E h17 h20⟩
def HK (z r : gX) (h : Int) (v : gX) : Prop := EXT z v ∧ v 17 = r 17 ∧ v 20 = r 20 ∧ v 16 0 0 = z 16 0 0 + 1 ∧ v 15 0 0 = h
theorem hea_kp {z r u : gX} (A : KP z r u) (h16 : z 16 0 0 ≤ 39) (hn : 1 ≤ z 10 0 0) {v : Int} (hv : -5 ≤ v ∧ v ≤ 5) (hv0 : v ≠ 0) : (sHeat u v).1 = kH (z 15 0 0 + v) ∧ HK z r (kH (z 15 0 0 + v)) (sHeat u v).2 := by
  have hu := KP_I A
  have e := A.1.2.1
  have t := hea_ok hu (by rw [A.1.2.2]; omega) (by rw [KP_10 A]; omega) hv hv0
  rw [e 15 0 0 (by omega)] at t
  obtain ⟨t1, s1, s2, s3, s4, s5⟩ := t
  exact ⟨t1, EXT_tr A.1.1 s1, s4.trans A.2.1, s5.trans A.2.2, by rw [s3, A.1.2.2], by rw [s2 15 0 0 (by omega), per0 hv (Or.inr ⟨rfl, rfl⟩), if_pos rfl, e 15 0 0 (by omega)]⟩
theorem sPl_m {m b h h' : Int} (e : h ≤ h') : sPlain m b h ≤ sPlain m b h' := by unfold sPlain; split <;> omega
theorem sFe_m {m k b h h' : Int} (e : h ≤ h') : sFelt m k b h ≤ sFelt m k b h' := by
  have := sPl_m (m := m) (b := b) e
  unfold sFelt
  split <;> omega
theorem bU_m {z : gX} (hz : NOK z) {i h h' : Int} (e : h ≤ h') : bU z i h ≤ bU z i h' := by
  have f := sFe_m (m := z 12 0 0) (k := z 1 i 0) (b := z 3 i 0) e
  have p := Int.mul_le_mul_of_nonneg_left f hz.1.1.1
  unfold bU sBurn
  omega
theorem bU_cS {m : Int} {a b : gX} (e : cS m a b) {i : Int} (h0 : 0 ≤ i) (h1 : i < m) (h : Int) : bU b i h = bU a i h := by
  unfold bU
  rw [e 1 i 0 (by omega) (by omega), e 3 i 0 (by omega) (by omega), e 4 i 0 (by omega) (by omega), e 11 0 0 (by omega) (by omega), e 12 0 0 (by omega) (by omega)]
theorem bU_0 (z : gX) (i h : Int) : 0 ≤ bU z i h := by unfold bU sBurn; omega
/-! sets told by bits -/
theorem and_none {P Q : Int → Prop} [DecidablePred P] [DecidablePred Q] {n : Int} (h0 : 0 ≤ n) (h : ∀ i : Int, 0 ≤ i → i < n → ¬ (P i ∧ Q i)) : J (bitsZ P n) &&& J (bitsZ Q n) = J 0 := by
  obtain ⟨m, rfl⟩ : ∃ m : Nat, n = m := ⟨n.toNat, by omega⟩
  rw [bits_and, bits_none (by omega) h]
theorem andn_none {P Q : Int → Prop} [DecidablePred P] [DecidablePred Q] {n : Int} (h0 : 0 ≤ n) (h : ∀ i : Int, 0 ≤ i → i < n → ¬ (P i ∧ ¬ Q i)) : J (bitsZ P n) &&& J (-(bitsZ Q n) - 1) = J 0 := by
  obtain ⟨m, rfl⟩ : ∃ m : Nat, n = m := ⟨n.toNat, by omega⟩
  rw [← notJ, bits_andn, bits_none (by omega) h]
theorem cm_tr {z : gX} (hz : NOK z) : J (cmB z) &&& J (trU z) = J 0 := and_none (P := fun i => z 6 i 0 = -9 ∧ vU z i (z 15 0 0) ≠ 2) (Q := fun i => z 6 i 0 ≠ -9) hz.2.1.1 (fun i _ _ c => c.2 c.1.1)
theorem cl_cm {z : gX} (hz : NOK z) : J (clB z) &&& J (-(cmB z) - 1) = J 0 := andn_none (P := fun i => z 6 i 0 = -9 ∧ vU z i (z 15 0 0) = 1) (Q := fun i => z 6 i 0 = -9 ∧ vU z i (z 15 0 0) ≠ 2) hz.2.1.1 (fun i _ _ c => c.2 ⟨c.1.1, by rw [c.1.2]; decide⟩)
theorem cmB_r {z : gX} (hz : NOK z) : 0 ≤ cmB z ∧ cmB z < 64 := by
  have h := bitZ_r (P := fun i => z 6 i 0 = -9 ∧ vU z i (z 15 0 0) ≠ 2) hz.2.1.1
  have q := p2_mono (show z 10 0 0 ≤ 6 from hz.2.1.2)
  rw [show p2 6 = 64 by decide +kernel] at q
  exact ⟨h.1, Int.lt_of_lt_of_le h.2 q⟩
theorem clB_r {z : gX} (hz : NOK z) : 0 ≤ clB z ∧ clB z < 64 := by
  have h := bitZ_r (P := fun i => z 6 i 0 = -9 ∧ vU z i (z 15 0 0) = 1) hz.2.1.1
  have q := p2_mono (show z 10 0 0 ≤ 6 from hz.2.1.2)
  rw [show p2 6 = 64 by decide +kernel] at q
  exact ⟨h.1, Int.lt_of_lt_of_le h.2 q⟩
theorem tw_r {z : gX} (hz : NOK z) : 0 ≤ twU z ∧ twU z ≤ z 10 0 0 := cntZ_r hz.2.1.1
theorem tc_r {z : gX} (hz : NOK z) : 0 ≤ tcU z ∧ tcU z ≤ z 10 0 0 := cntZ_r hz.2.1.1
theorem ht_r (z : gX) (i v : Int) : 0 ≤ htU z i v ∧ htU z i v < 2147483648 := bits_31
theorem ht_2 {z : gX} {i v w : Int} (h : v ≠ w) : J (htU z i v) &&& J (htU z i w) = J 0 := and_none (P := fun h => vU z i h = v) (Q := fun h => vU z i h = w) (n := 31) (by decide) (fun q _ _ c => h (c.1.symm.trans c.2))
theorem ht_or {z : gX} {i : Int} : J (htU z i 0) ||| J (htU z i 1) = J (bitsZ (fun h => vU z i h = 0 ∨ vU z i h = 1) 31) := bits_or (P := fun h => vU z i h = 0) (Q := fun h => vU z i h = 1) 31
theorem ht_all {z : gX} {i : Int} : J (bitsZ (fun h => vU z i h = 0 ∨ vU z i h = 1) 31) ||| J (htU z i 2) = J 2147483647 := by
  have e := bits_or (P := fun h => vU z i h = 0 ∨ vU z i h = 1) (Q := fun h => vU z i h = 2) 31
  refine e.trans ?_
  have c : bitsZ (fun h => (vU z i h = 0 ∨ vU z i h = 1) ∨ vU z i h = 2) ((31 : Nat) : Int) = bitsZ (fun _ => True) 31 := bitsZ_cong (fun h _ _ => ⟨fun _ => trivial, fun _ => by have := vU_r z i h; omega⟩)
  rw [c]; rfl
theorem ht_at {z : gX} {i : Int} (h15 : 0 ≤ z 15 0 0 ∧ z 15 0 0 ≤ 30) : htU z i (vU z i (z 15 0 0)) / p2 (z 15 0 0) % 2 = 1 := by
  rw [bit_of (P := fun h => vU z i h = vU z i (z 15 0 0)) h15.1 (by omega), if_pos rfl]
/-- who is tried was told 0, 1 or 2 -/
def VT0 (z : gX) : Prop := ∀ i : Int, 0 ≤ i → i < z 10 0 0 → z 6 i 0 = -9 ∨ 0 ≤ z 6 i 0
theorem VT_act {z : gX} (h : VT0 z) (w q : Int) : VT0 (actM z w q) := by
  rcases (show w = 0 ∨ w = 1 ∨ w = 2 ∨ (w ≠ 0 ∧ w ≠ 1 ∧ w ≠ 2) by omega) with e | e | e | e
  · rw [actM_w0 e]; exact h
  · rw [actM_w1 e]; exact h
  · rw [actM_w2 e]
    intro i h0 h1
    have hv := vU_r z q (z 15 0 0)
    have h1' : i < z 10 0 0 := h1
    rw [xU_k (by decide), xU_k (by decide), xU_at]
    by_cases c : i = q ∧ (0 : Int) = 0
    · rw [if_pos c]; exact Or.inr hv.1
    · rw [if_neg c]; exact h i h0 h1'
  · rw [actM_w3 e]; exact h
theorem VT_rep (x : gX) (d : Int) : ∀ j : Nat, VT0 (repN x d j)
  | 0 => fun i h0 h1 => by
    left
    show rsM (xU x 15 0 0 8) (x 10 0 0) 6 i 0 = -9
    have h1' : i < x 10 0 0 := h1
    unfold rsM
    rw [if_pos ⟨Or.inr (Or.inl rfl), h0, h1', rfl⟩]; rfl
  | j + 1 => VT_act (VT_rep x d j) _ _
theorem INV_VT {z : gX} (h : INV z) {i : Int} (h0 : 0 ≤ i) (h1 : i < z 10 0 0) : z 6 i 0 = -9 ∨ 0 ≤ z 6 i 0 := by
  have c := (CUR_cE h.2.2.2.1).2
  have v := VT_rep z 0 (z 16 0 0).toNat i h0 (by show i < repM z 0 (z 16 0 0) 10 0 0; rw [repM_10]; exact h1)
  have e : repM z 0 (z 16 0 0) 6 i 0 = z 6 i 0 := c 6 i 0 (by omega)
  rw [← e]; exact v
