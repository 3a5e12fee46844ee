/-! the least salve; chances and means -/
theorem sn_cE {m : Int} {a b : gX} (e : cE m a b) {i : Int} (h0 : 0 ≤ i) (h1 : i < m) : snU b i = snU a i := by
  unfold snU
  rw [e 15 0 0 (by omega), lU_cE e h0 h1]
theorem nd_cE {m : Int} {a b : gX} (e : cE m a b) {i : Int} (h0 : 0 ≤ i) (h1 : i < m) : ndU b i = ndU a i := ite_congr (propext (mb_cE e h0 h1)) (fun _ => sn_cE e h0 h1) (fun _ => rfl)
theorem ls_cE {a b : gX} (e : cE (a 10 0 0) a b) : lsP b (b 10 0 0) ↔ lsP a (a 10 0 0) := by
  have e10 : b 10 0 0 = a 10 0 0 := e 10 0 0 (by omega)
  have q : sumZ (fun i => if b 5 i 0 + ndU b i ≤ 3 then 0 else 1) (a 10 0 0) = sumZ (fun i => if a 5 i 0 + ndU a i ≤ 3 then 0 else 1) (a 10 0 0) := sumZ_cong (fun i h0 h1 => by
    have e5 := e 5 i 0 (by omega)
    have en := nd_cE e h0 h1
    show (if b 5 i 0 + ndU b i ≤ 3 then (0 : Int) else 1) = if a 5 i 0 + ndU a i ≤ 3 then 0 else 1
    rw [e5]
    unfold ndU at en ⊢
    rw [en])
  show sumZ (fun i => if b 5 i 0 + ndU b i ≤ 3 then 0 else 1) (b 10 0 0) = 0 ↔ _
  rw [e10, q]
theorem nd_0 (z : gX) (i : Int) : 0 ≤ ndU z i := by
  unfold ndU snU; split <;> omega
theorem nd_3 {z : gX} (h10 : 0 ≤ z 10 0 0) (h : lsP z (z 10 0 0)) {i : Int} (h0 : 0 ≤ i) (h1 : i < z 10 0 0) : z 5 i 0 + ndU z i ≤ 3 := (mmZ_iff (P := fun i => z 5 i 0 + ndU z i ≤ 3) h10).mp h i h0 h1
/-- one more is wanted just if it burns too much by now -/
theorem nd_iff {z : gX} {i c : Int} (hm : mbU z i) (hc : 0 ≤ c) : c < ndU z i ↔ 0 < lU z i (z 15 0 0) - 2 * c := by
  unfold ndU snU
  rw [if_pos hm]
  rcases Int.le_total 0 (lU z i (z 15 0 0)) with q | q
  · rw [tdiv2_p (by omega)]; omega
  · rcases (show lU z i (z 15 0 0) = 0 ∨ lU z i (z 15 0 0) + 1 ≤ 0 by omega) with d | d
    · rw [d]
      have : ((0 : Int) + 1).tdiv 2 = 0 := by decide
      omega
    · rw [tdiv2_n d]; omega
theorem nd_no {z : gX} {i : Int} (hm : ¬ mbU z i) : ndU z i = 0 := by unfold ndU; rw [if_neg hm]
theorem nd_sum (z : gX) : ∀ n : Nat, sumN (fun i => if 0 < ndU z i then 1 else 0) n ≤ sumN (fun i => ndU z i) n ∧ 0 ≤ sumN (fun i => if 0 < ndU z i then 1 else 0) n ∧ (sumN (fun i => if 0 < ndU z i then 1 else 0) n = 0 ↔ sumN (fun i => ndU z i) n = 0)
  | 0 => ⟨Int.le_refl _, Int.le_refl _, Iff.rfl⟩
  | k + 1 => by
    have a := nd_sum z k
    have b := nd_0 z (k : Int)
    show sumN (fun i => if 0 < ndU z i then 1 else 0) k + (if 0 < ndU z (k : Int) then (1 : Int) else 0) ≤ sumN (fun i => ndU z i) k + ndU z (k : Int) ∧ 0 ≤ sumN (fun i => if 0 < ndU z i then 1 else 0) k + (if 0 < ndU z (k : Int) then (1 : Int) else 0) ∧ (sumN (fun i => if 0 < ndU z i then 1 else 0) k + (if 0 < ndU z (k : Int) then (1 : Int) else 0) = 0 ↔ sumN (fun i => ndU z i) k + ndU z (k : Int) = 0)
    generalize ndU z (k : Int) = d at b ⊢
    generalize sumN (fun i => if 0 < ndU z i then 1 else 0) k = p at a ⊢
    generalize sumN (fun i => ndU z i) k = q at a ⊢
    split <;> omega
theorem nd_s0 (z : gX) (i : Int) : 0 ≤ sumZ (fun q => ndU z q) i := Int.le_trans (nd_sum z i.toNat).2.1 (nd_sum z i.toNat).1
abbrev lvU (z : gX) : Int := sumZ (fun i => ndU z i) (z 10 0 0)
abbrev lnU (z : gX) : Int := sumZ (fun i => if 0 < ndU z i then 1 else 0) (z 10 0 0)
theorem lv_f {z : gX} (hN : NOK z) (h : lsP z (z 10 0 0)) : (0 ≤ lvU z ∧ lvU z ≤ 18) ∧ (0 ≤ lnU z ∧ lnU z ≤ lvU z) ∧ (lnU z = 0 ↔ lvU z = 0) := by
  have h10 := hN.2.1
  have a := nd_sum z (z 10 0 0).toNat
  have b := sumZ_range (f := fun i => ndU z i) (a := 0) (b := 3) h10.1 (fun i h0 h1 => ⟨nd_0 z i, by
    have q := nd_3 h10.1 h h0 h1
    have m := (hN.2.2.2 i h0 h1).2.2.2.2.1
    show ndU z i ≤ 3
    omega⟩)
  have b : 0 * z 10 0 0 ≤ lvU z ∧ lvU z ≤ 3 * z 10 0 0 := b
  exact ⟨⟨by omega, by omega⟩, ⟨a.2.1, a.1⟩, a.2.2⟩
theorem le_k0 {z r u : gX} (A : KP z r u) (hn : 1 ≤ z 10 0 0) (hL : lsP z (z 10 0 0)) : (sLeast u).1 = lvU z ∧ KP z r (sLeast u).2 ∧ (sLeast u).2 19 0 0 = lnU z := by
  have e := A.1.2.1
  have e10 := KP_10 A
  have a1 : sumZ (fun i => ndU u i) (u 10 0 0) = lvU z := by
    rw [e10]; exact sumZ_cong (fun i h0 h1 => nd_cE e h0 h1)
  have a2 : sumZ (fun i => if 0 < ndU u i then 1 else 0) (u 10 0 0) = lnU z := by
    rw [e10]; exact sumZ_cong (fun i h0 h1 => by
      have en := nd_cE e h0 h1
      show (if 0 < ndU u i then (1 : Int) else 0) = if 0 < ndU z i then 1 else 0
      unfold ndU at en ⊢
      rw [en])
  have eq : sLeast u = (sumZ (fun i => ndU u i) (u 10 0 0), xU u 19 0 0 (sumZ (fun i => if 0 < ndU u i then 1 else 0) (u 10 0 0))) := by
    unfold sLeast
    rw [if_neg (by omega), if_neg (fun c => c ((ls_cE e).mpr hL))]
  rw [eq]
  exact ⟨a1, KP_tell A _, (xU_same u 19 0 0 _).trans a2⟩
theorem le_k1 {z r u : gX} (A : KP z r u) (hn : 1 ≤ z 10 0 0) (hL : ¬ lsP z (z 10 0 0)) : (sLeast u).1 = -9 ∧ KP z r (sLeast u).2 := by
  have e := A.1.2.1
  have e10 := KP_10 A
  have eq : sLeast u = (-9, u) := by
    unfold sLeast
    rw [if_neg (by omega), if_pos (fun c => hL ((ls_cE e).mp c))]
  rw [eq]
  exact ⟨rfl, A⟩
/-- salve given: to those before i what they need, to i c -/
def SL (z r : gX) (i c : Int) (u : gX) : Prop := EXT z u ∧ u 17 = r 17 ∧ u 20 = r 20 ∧ u 16 0 0 = z 16 0 0 + (sumZ (fun q => ndU z q) i + c) ∧ u 15 0 0 = z 15 0 0 ∧ (∀ q : Int, 0 ≤ q → q < z 10 0 0 → u 6 q 0 = z 6 q 0 ∧ u 5 q 0 = z 5 q 0 + (if q < i then ndU z q else if q = i then c else 0)) ∧ (sumZ (fun q => ndU z q) i + c = 0 → KP z r u)
theorem SL_0 {z r u : gX} (A : KP z r u) : SL z r 0 0 u := by
  have e := A.1.2.1
  refine ⟨A.1.1, A.2.1, A.2.2, by rw [sumZ_0, A.1.2.2]; omega, e 15 0 0 (by omega), fun q q0 q1 => ⟨e 6 q 0 (by omega), ?_⟩, fun _ => A⟩
  rw [e 5 q 0 (by omega), if_neg (by omega)]
  split <;> omega
theorem SL_tell {z r u : gX} {i c : Int} (h : SL z r i c u) (v : Int) : SL z r i c (xU u 19 0 0 v) := by
  obtain ⟨h1, h2, h3, h4, h5, h6, h7⟩ := h
  exact ⟨EXT_tr h1 (KP_tell (KP_rf h1.1) v).1.1, h2, h3, h4, h5, h6, fun c => KP_tell (h7 c) v⟩
theorem SL_n {z r u : gX} {i c : Int} (h : SL z r i c u) (h0 : 0 ≤ i) (e : c = ndU z i) : SL z r (i + 1) 0 u := by
  obtain ⟨h1, h2, h3, h4, h5, h6, h7⟩ := h
  refine ⟨h1, h2, h3, ?_, h5, fun q q0 q1 => ⟨(h6 q q0 q1).1, ?_⟩, ?_⟩
  · rw [sumZ_s _ h0]
    show _ = z 16 0 0 + (sumZ (fun q => ndU z q) i + ndU z i + 0)
    rw [← e, Int.add_zero]; exact h4
  · rw [(h6 q q0 q1).2]
    by_cases c1 : q < i
    · rw [if_pos c1, if_pos (by omega)]
    · by_cases c2 : q = i
      · rw [if_neg c1, if_pos c2, if_pos (by omega), e, c2]
      · rw [if_neg c1, if_neg c2, if_neg (by omega)]
        split <;> omega
  · rw [sumZ_s _ h0]
    show sumZ (fun q => ndU z q) i + ndU z i + 0 = 0 → _
    rw [← e, Int.add_zero]; exact h7
theorem SL_l {z r u : gX} {i c : Int} (h : SL z r i c u) (h0 : 0 ≤ i) (h1 : i < z 10 0 0) : lU u i (u 15 0 0) = lU z i (z 15 0 0) - 2 * c := by
  obtain ⟨⟨_, hS, _⟩, _, _, _, h5, h6, _⟩ := h
  have s := (h6 i h0 h1).2
  rw [if_neg (by omega), if_pos rfl] at s
  unfold lU
  rw [h5, bU_cS hS h0 h1, hS 13 0 0 (by omega) (by omega), s]; omega
theorem SL_1 {z r u : gX} {i c : Int} (h : SL z r i c u) (h0 : 0 ≤ i) (h1 : i < z 10 0 0) : dU u i 1 = z 2 i 0 := h.1.2.1 2 i 0 (by omega) (by omega)
theorem SL_6 {z r u : gX} {i c : Int} (h : SL z r i c u) (h0 : 0 ≤ i) (h1 : i < z 10 0 0) : dU u i 6 = if lU z i (z 15 0 0) - 2 * c ≤ 0 then 1 else 0 := by
  show (if lU u i (u 15 0 0) ≤ 0 then (1 : Int) else 0) = _
  rw [SL_l h h0 h1]
theorem SL_s {z r u : gX} {i c : Int} (h : SL z r i c u) (h0 : 0 ≤ i) (h1 : i < z 10 0 0) (hc : 0 ≤ c) (h6' : z 6 i 0 = -9) (h3 : z 5 i 0 + c < 3) (h16 : u 16 0 0 < 40) : 0 ≤ (sSalve u i).1 ∧ (sSalve u i).1 ≤ 3 ∧ SL z r i (c + 1) (sSalve u i).2 := by
  obtain ⟨g1, g2, g3, g4, g5, g6, g7⟩ := h
  have s := g6 i h0 h1
  have s5 := s.2
  rw [if_neg (by omega), if_pos rfl] at s5
  have e10 := EXT_10 g1
  have i1 : i < u 10 0 0 := by rw [e10]; exact h1
  have t := sal_ok g1.1 h16 h0 i1 (s.1.trans h6') (by omega)
  obtain ⟨t1, s1, s2, s3, s4, s5'⟩ := t
  have hm := (g1.1.1.2.2.2 i h0 i1).2.2.2.2.1
  refine ⟨by rw [t1]; omega, by rw [t1]; omega, EXT_tr g1 s1, s4.trans g2, s5'.trans g3, by rw [s3, g4]; omega, ?_, fun q q0 q1 => ?_, ?_⟩
  · rw [s2 15 0 0 (by omega), per1 h0 i1 (Or.inr ⟨rfl, rfl⟩), if_neg (by omega)]; exact g5
  · have e6 := s2 6 q 0 (by omega)
    have e5 := s2 5 q 0 (by omega)
    rw [per1 h0 i1 (by omega)] at e6 e5
    rw [if_neg (by omega)] at e6
    refine ⟨e6.trans (g6 q q0 q1).1, e5.trans ?_⟩
    have o := (g6 q q0 q1).2
    by_cases d : q = i
    · subst d
      rw [if_pos ⟨rfl, rfl⟩, if_neg (by omega), if_pos rfl]; omega
    · rw [if_neg (fun w => d w.2), o]
      by_cases d2 : q < i
      · rw [if_pos d2, if_pos d2]
      · rw [if_neg d2, if_neg d, if_neg d2, if_neg d]
  · intro w
    have e1 := nd_s0 z i
    omega
theorem SL_e {z r u : gX} (hz : INV z) (hn : 1 ≤ z 10 0 0) (hL : lsP z (z 10 0 0)) (h : SL z r (z 10 0 0) 0 u) : (sLeast u).1 = 0 ∧ SL z r (z 10 0 0) 0 (sLeast u).2 := by
  have e10 := EXT_10 h.1
  have hS := h.1.2.1
  have h10 := hz.1.2.1
  have nd : ∀ q : Int, 0 ≤ q → q < z 10 0 0 → ndU u q = 0 := fun q q0 q1 => by
    by_cases hm : mbU u q
    · have s := h.2.2.2.2.2.1 q q0 q1
      have s5 := s.2
      rw [if_pos q1] at s5
      have a2 : u 2 q 0 = z 2 q 0 := hS 2 q 0 (by omega) (by omega)
      have hc : cU z q (z 15 0 0) := by
        have := hm.2.2
        rw [h.2.2.2.2.1] at this
        have e : sComes (u 1 q 0) (u 2 q 0) (u 3 q 0) (z 15 0 0) := this
        rw [hS 1 q 0 (by omega) (by omega), a2, hS 3 q 0 (by omega) (by omega)] at e
        exact e
      have hmz : mbU z q := ⟨s.1.symm.trans hm.1, a2.symm.trans hm.2.1, hc⟩
      have el : lU u q (u 15 0 0) = lU z q (z 15 0 0) - 2 * ndU z q := by
        unfold lU
        rw [h.2.2.2.2.1, bU_cS hS q0 q1, hS 13 0 0 (by omega) (by omega), s5]; omega
      have a := (nd_iff hmz (nd_0 z q)).mpr
      have b := nd_iff (z := u) (c := 0) hm (Int.le_refl _)
      have n0 := nd_0 u q
      have n1 : ¬ (0 < ndU u q) := fun w => by
        have w2 := b.mp w
        rw [el] at w2
        have := a (by omega)
        omega
      omega
    · exact nd_no hm
  have ls : lsP u (u 10 0 0) := by
    rw [e10]
    refine (mmZ_iff (P := fun i => u 5 i 0 + ndU u i ≤ 3) h10.1).mpr (fun q q0 q1 => ?_)
    have s5 := (h.2.2.2.2.2.1 q q0 q1).2
    rw [if_pos q1] at s5
    have := nd_3 h10.1 hL q0 q1
    rw [nd q q0 q1, s5]; omega
  have eq : sLeast u = (sumZ (fun i => ndU u i) (u 10 0 0), xU u 19 0 0 (sumZ (fun i => if 0 < ndU u i then 1 else 0) (u 10 0 0))) := by
    unfold sLeast
    rw [if_neg (by omega), if_neg (fun c => c ls)]
  rw [eq]
  exact ⟨sum_0 (by rw [e10]; exact h10.1) (fun q q0 q1 => nd q q0 (by rw [e10] at q1; exact q1)), SL_tell h _⟩
/-! odds and means -/
theorem pd_le {f g : Int → Int} (h : ∀ i : Int, 0 ≤ f i ∧ f i ≤ g i) : ∀ n : Nat, 0 ≤ pdN f n ∧ pdN f n ≤ pdN g n
  | 0 => ⟨(by show (0 : Int) ≤ 1; decide), Int.le_refl _⟩
  | k + 1 => by
    have a := pd_le h k
    have b := h (k : Int)
    show 0 ≤ pdN f k * f k ∧ pdN f k * f k ≤ pdN g k * g k
    exact ⟨Int.mul_nonneg a.1 b.1, Int.mul_le_mul a.2 b.2 b.1 (by omega)⟩
theorem pd_0 {f : Int → Int} {i : Nat} (hi : f (i : Int) = 0) : ∀ n : Nat, i < n → pdN f n = 0
  | 0, h => absurd h (Nat.not_lt_zero _)
  | k + 1, h => by
    show pdN f k * f k = 0
    by_cases c : i = k
    · rw [← c, hi, Int.mul_zero]
    · rw [pd_0 hi k (by omega), Int.zero_mul]
theorem ol_pos (z : gX) : ∀ n : Nat, 0 < pdN (fun i => if mbU z i then 12 else 1) n
  | 0 => (by show (0 : Int) < 1; decide)
  | k + 1 => by
    have a := ol_pos z k
    show 0 < pdN (fun i => if mbU z i then 12 else 1) k * (if mbU z (k : Int) then (12 : Int) else 1)
    exact Int.mul_pos a (by split <;> decide)
theorem ou_ol {z : gX} (hN : NOK z) {p : Int} (hp : 0 ≤ p ∧ p ≤ 12) : (0 ≤ ouU z p ∧ ouU z p ≤ olU z) ∧ olU z ≤ 4000000 := by
  have a := pd_le (f := fun i => if mbU z i then ccU z i p else 1) (g := fun i => if mbU z i then 12 else 1) (fun i => by
    have c := ccU_r (x := z) (i := i) hp
    show 0 ≤ (if mbU z i then ccU z i p else 1) ∧ (if mbU z i then ccU z i p else 1) ≤ (if mbU z i then 12 else 1)
    split <;> omega) (z 10 0 0).toNat
  have b := pdZ_r (f := fun i => if mbU z i then (12 : Int) else 1) hN.2.1 (fun i => by show 0 ≤ (if mbU z i then (12 : Int) else 1) ∧ (if mbU z i then (12 : Int) else 1) ≤ 12; split <;> omega)
  exact ⟨a, Int.le_trans b.2 (by decide)⟩
theorem od_e {u : gX} (hn : u 10 0 0 ≠ 0) {p : Int} (hp : 0 ≤ p ∧ p ≤ 12) : sOdds u p = (1, tfM u (ouU u p) (olU u)) := by
  unfold sOdds
  rw [hR0 hn hp, if_neg (fun c => c rfl)]
theorem od_k {z r u : gX} (A : KP z r u) (hn : 1 ≤ z 10 0 0) {p : Int} (hp : 0 ≤ p ∧ p ≤ 12) : (sOdds u p).1 = 1 ∧ KP z r (sOdds u p).2 ∧ (0 ≤ (sOdds u p).2 8 0 0 ∧ (sOdds u p).2 8 0 0 ≤ (sOdds u p).2 9 0 0) ∧ (sOdds u p).2 9 0 0 ≤ 4000000 := by
  rw [od_e (by rw [KP_10 A]; omega) hp]
  have g := ou_ol (KP_I A).1 hp
  exact ⟨rfl, KP_tf A _ _, tf_r (u := u) g.1 g.2⟩
theorem od_0 {z r u : gX} (A : KP z r u) (hn : 1 ≤ z 10 0 0) {i : Int} (h0 : 0 ≤ i) (h1 : i < z 10 0 0) (hd : 0 < ndU z i) : (sOdds u 0).1 = 1 ∧ KP z r (sOdds u 0).2 ∧ (sOdds u 0).2 8 0 0 = 0 := by
  have e := A.1.2.1
  have e10 := KP_10 A
  have du : 0 < ndU u i := by rw [nd_cE e h0 h1]; exact hd
  have hm : mbU u i := by
    by_cases c : mbU u i
    · exact c
    · rw [nd_no c] at du; omega
  have hl := (nd_iff (c := 0) hm (Int.le_refl _)).mp du
  rw [od_e (by rw [e10]; omega) (by decide)]
  have z0 : ouU u 0 = 0 := by
    obtain ⟨k, rfl⟩ : ∃ k : Nat, i = k := ⟨i.toNat, by omega⟩
    refine pd_0 (f := fun i => if mbU u i then ccU u i 0 else 1) (i := k) ?_ _ (by omega)
    show (if mbU u (k : Int) then ccU u (k : Int) 0 else 1) = 0
    rw [if_pos hm]
    unfold ccU
    rw [if_pos (by omega)]
  exact ⟨rfl, KP_tf A _ _, (tf_01 (u := u) (a := ouU u 0) (b := olU u) (ol_pos u _)).2 z0⟩
theorem od_1 {z r u : gX} (A : KP z r u) (hn : 1 ≤ z 10 0 0) (hd : ∀ i : Int, 0 ≤ i → i < z 10 0 0 → ndU z i = 0) : (sOdds u 0).1 = 1 ∧ KP z r (sOdds u 0).2 ∧ (sOdds u 0).2 8 0 0 = 1 := by
  have e := A.1.2.1
  have e10 := KP_10 A
  rw [od_e (by rw [e10]; omega) (by decide)]
  have z0 : ouU u 0 = olU u := pdZ_cong (fun i h0 h1 => by
    rw [e10] at h1
    show (if mbU u i then ccU u i 0 else 1) = if mbU u i then 12 else 1
    by_cases hm : mbU u i
    · rw [if_pos hm, if_pos hm]
      have q : ¬ 0 < ndU u i := by rw [nd_cE e h0 h1, hd i h0 h1]; decide
      have l : ¬ 0 < lU u i (u 15 0 0) := fun w => q ((nd_iff (c := 0) hm (Int.le_refl _)).mpr (by omega))
      unfold ccU
      rw [if_neg l]
      split <;> rfl
    · rw [if_neg hm, if_neg hm])
  exact ⟨rfl, KP_tf A _ _, (tf_01 (u := u) (a := ouU u 0) (b := olU u) (ol_pos u _)).1 z0⟩
theorem nd_all {z : gX} (h : lvU z = 0) : ∀ i : Int, 0 ≤ i → i < z 10 0 0 → ndU z i = 0 := by
  have key : ∀ n : Nat, sumN (fun i => ndU z i) n = 0 → ∀ i : Int, 0 ≤ i → i < n → ndU z i = 0 := by
    intro n
    induction n with
    | zero => intro _ i h0 h1; omega
    | succ k ih =>
      intro hs i h0 h1
      have hs : sumN (fun i => ndU z i) k + ndU z (k : Int) = 0 := hs
      have a := nd_sum z k
      have b := nd_0 z (k : Int)
      by_cases c : i = (k : Int)
      · rw [c]; omega
      · exact ih (by omega) i h0 (by omega)
  intro i h0 h1
  exact key (z 10 0 0).toNat h i h0 (by omega)
theorem nd_ex {z : gX} (h : lvU z ≠ 0) : ∃ i : Int, 0 ≤ i ∧ i < z 10 0 0 ∧ 0 < ndU z i := by
  have key : ∀ n : Nat, sumN (fun i => ndU z i) n ≠ 0 → ∃ i : Int, 0 ≤ i ∧ i < n ∧ 0 < ndU z i := by
    intro n
    induction n with
    | zero => intro c; exact absurd rfl c
    | succ k ih =>
      intro hs
      have hs : sumN (fun i => ndU z i) k + ndU z (k : Int) ≠ 0 := hs
      have b := nd_0 z (k : Int)
      by_cases c : 0 < ndU z (k : Int)
      · exact ⟨k, by omega, by omega, c⟩
      · obtain ⟨i, i0, i1, i2⟩ := ih (by omega)
        exact ⟨i, i0, by omega, i2⟩
  by_cases c : 0 ≤ z 10 0 0
  · obtain ⟨i, i0, i1, i2⟩ := key (z 10 0 0).toNat h
    exact ⟨i, i0, by omega, i2⟩
  · exact absurd (show lvU z = 0 by show sumN _ (z 10 0 0).toNat = 0; rw [show (z 10 0 0).toNat = 0 by omega]; rfl) h
theorem ls_ex {z : gX} (hz : INV z) (h : ¬ lsP z (z 10 0 0)) : ∃ i : Int, 0 ≤ i ∧ i < z 10 0 0 ∧ 0 < ndU z i := by
  have h10 := hz.1.2.1.1
  apply Classical.byContradiction
  intro c
  apply h
  refine (mmZ_iff (P := fun i => z 5 i 0 + ndU z i ≤ 3) h10).mpr (fun q q0 q1 => ?_)
  have s := sal3 hz q0 q1
  have n := nd_0 z q
  by_cases d : 0 < ndU z q
  · exact absurd ⟨q, q0, q1, d⟩ c
  · have : ndU z q = 0 := by omega
    omega
/-- of those who come, how many are clean, if none burns more -/
theorem cl_n {z : gX} (hN : NOK z) : pcZ (clB z) = sumZ (fun i => if z 6 i 0 = -9 ∧ vU z i (z 15 0 0) = 1 then 1 else 0) (z 10 0 0) := pc_n (P := fun i => z 6 i 0 = -9 ∧ vU z i (z 15 0 0) = 1) hN.2.1.1 (by have := hN.2.1.2; omega)
theorem md_sum (z : gX) (p : Int) (hp : p = 0 ∨ p = 12) : ∀ n : Nat, ∃ m : Int, sumN (fun i => if z 6 i 0 = -9 ∧ cU z i (z 15 0 0) then ccU z i p else 0) n = 12 * m ∧ 0 ≤ m ∧ m ≤ sumN (fun i => if z 6 i 0 = -9 ∧ vU z i (z 15 0 0) = 1 then 1 else 0) n ∧ (p = 0 → m = sumN (fun i => if z 6 i 0 = -9 ∧ vU z i (z 15 0 0) = 1 then 1 else 0) n)
  | 0 => ⟨0, rfl, Int.le_refl _, Int.le_refl _, fun _ => rfl⟩
  | k + 1 => by
    obtain ⟨m, e, m0, m1, m2⟩ := md_sum z p hp k
    have st : ∃ d : Int, (if z 6 (k : Int) 0 = -9 ∧ cU z (k : Int) (z 15 0 0) then ccU z (k : Int) p else 0) = 12 * d ∧ 0 ≤ d ∧ d ≤ (if z 6 (k : Int) 0 = -9 ∧ vU z (k : Int) (z 15 0 0) = 1 then 1 else 0) ∧ (p = 0 → d = (if z 6 (k : Int) 0 = -9 ∧ vU z (k : Int) (z 15 0 0) = 1 then 1 else 0)) := by
      by_cases c : z 6 (k : Int) 0 = -9 ∧ cU z (k : Int) (z 15 0 0)
      · rw [if_pos c]
        unfold ccU vU
        rw [if_pos c.2]
        by_cases l : 0 < lU z (k : Int) (z 15 0 0)
        · rw [if_pos l, if_pos l, if_neg (show ¬ (z 6 (k : Int) 0 = -9 ∧ (0 : Int) = 1) by omega)]
          exact ⟨0, rfl, Int.le_refl _, Int.le_refl _, fun _ => rfl⟩
        · rw [if_neg l, if_neg l, if_pos (show z 6 (k : Int) 0 = -9 ∧ (1 : Int) = 1 from ⟨c.1, rfl⟩)]
          rcases hp with rfl | rfl
          · exact ⟨1, by split <;> rfl, by decide, by decide, fun _ => rfl⟩
          · split
            · exact ⟨0, rfl, by decide, by decide, fun w => by omega⟩
            · exact ⟨1, rfl, by decide, by decide, fun _ => rfl⟩
      · rw [if_neg c, if_neg (fun w => c ⟨w.1, by
          apply Decidable.byContradiction
          intro g
          have w2 := w.2
          unfold vU at w2
          rw [if_neg g] at w2
          exact absurd w2 (by decide)⟩)]
        exact ⟨0, rfl, Int.le_refl _, Int.le_refl _, fun _ => rfl⟩
    obtain ⟨d, e2, d0, d1, d2⟩ := st
    refine ⟨m + d, ?_, by omega, ?_, fun w => ?_⟩
    · show sumN _ k + (if z 6 (k : Int) 0 = -9 ∧ cU z (k : Int) (z 15 0 0) then ccU z (k : Int) p else 0) = _
      rw [e, e2]; omega
    · show m + d ≤ sumN _ k + (if z 6 (k : Int) 0 = -9 ∧ vU z (k : Int) (z 15 0 0) = 1 then (1 : Int) else 0)
      omega
    · show m + d = sumN _ k + (if z 6 (k : Int) 0 = -9 ∧ vU z (k : Int) (z 15 0 0) = 1 then (1 : Int) else 0)
      rw [m2 w, d2 w]
theorem mi_k {z r u : gX} (A : KP z r u) (hn : 1 ≤ z 10 0 0) {p : Int} (hp : p = 0 ∨ p = 12) : (sMid u p).1 = 1 ∧ KP z r (sMid u p).2 ∧ (0 ≤ (sMid u p).2 8 0 0 ∧ (sMid u p).2 8 0 0 ≤ pcZ (clB z)) ∧ (p = 0 → (sMid u p).2 8 0 0 = pcZ (clB z)) ∧ (sMid u p).2 9 0 0 = 1 := by
  have e := A.1.2.1
  have e10 := KP_10 A
  have hN := (KP_I A).1
  have c := cl_n hN
  have ec : clB u = clB z := cl_cE e
  rw [ec] at c
  obtain ⟨m, e1, m0, m1, m2⟩ := md_sum u p hp (u 10 0 0).toNat
  have eq : sMid u p = (1, tfM u (12 * m) 12) := by
    unfold sMid
    rw [hR0 (by rw [e10]; omega) (by omega), if_neg (fun c => c rfl)]
    have e2 : mdU u p = 12 * m := e1
    rw [e2]
  rw [eq]
  have t := tf_1 (u := u) m0
  rw [c]
  refine ⟨rfl, KP_tf A _ _, ?_, fun w => ?_, t.2⟩
  · show 0 ≤ tfM u (12 * m) 12 8 0 0 ∧ tfM u (12 * m) 12 8 0 0 ≤ _
    rw [t.1]; exact ⟨m0, m1⟩
  · show tfM u (12 * m) 12 8 0 0 = _
    rw [t.1]; exact m2 w
