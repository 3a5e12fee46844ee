/-! the law's picture of a court: g (41), v (42) -/
def PG (x : gX) (y : gY) : Prop := y 41 0 = x 10 0 0 ∧ y 41 1 = x 11 0 0 ∧ y 41 2 = x 12 0 0 ∧ y 41 3 = x 13 0 0 ∧ y 41 4 = x 14 0 0 ∧ ∀ i : Int, 0 ≤ i → i < x 10 0 0 → y 41 (5 + i) = x 1 i 0 ∧ y 41 (11 + i) = x 2 i 0 ∧ y 41 (17 + i) = x 3 i 0 ∧ y 41 (23 + i) = x 4 i 0
def PV (x : gX) (y : gY) : Prop := y 42 0 = x 15 0 0 ∧ y 42 1 = trU x ∧ y 42 2 = tcU x ∧ y 42 3 = twU x ∧ ∀ i : Int, 0 ≤ i → i < x 10 0 0 → y 42 (4 + i) = x 5 i 0 ∧ y 42 (10 + i) = x 6 i 0
theorem pg_k {x : gX} {y : gY} (h : PG x y) {i : Int} (h0 : 0 ≤ i) (h1 : i < x 10 0 0) : y 41 (5 + i) = x 1 i 0 := (h.2.2.2.2.2 i h0 h1).1
theorem pg_g {x : gX} {y : gY} (h : PG x y) {i : Int} (h0 : 0 ≤ i) (h1 : i < x 10 0 0) : y 41 (11 + i) = x 2 i 0 := (h.2.2.2.2.2 i h0 h1).2.1
theorem pg_b {x : gX} {y : gY} (h : PG x y) {i : Int} (h0 : 0 ≤ i) (h1 : i < x 10 0 0) : y 41 (17 + i) = x 3 i 0 := (h.2.2.2.2.2 i h0 h1).2.2.1
theorem pg_h {x : gX} {y : gY} (h : PG x y) {i : Int} (h0 : 0 ≤ i) (h1 : i < x 10 0 0) : y 41 (23 + i) = x 4 i 0 := (h.2.2.2.2.2 i h0 h1).2.2.2
theorem pv_s {x : gX} {y : gY} (h : PV x y) {i : Int} (h0 : 0 ≤ i) (h1 : i < x 10 0 0) : y 42 (4 + i) = x 5 i 0 := (h.2.2.2.2 i h0 h1).1
theorem pv_t {x : gX} {y : gY} (h : PV x y) {i : Int} (h0 : 0 ≤ i) (h1 : i < x 10 0 0) : y 42 (10 + i) = x 6 i 0 := (h.2.2.2.2 i h0 h1).2
theorem PG_cS {a b : gX} {y : gY} (h : PG a y) (e : cS (a 10 0 0) a b) : PG b y := by
  obtain ⟨h0, h1, h2, h3, h4, h5⟩ := h
  unfold PG
  rw [e 10 0 0 (by omega) (by omega), e 11 0 0 (by omega) (by omega), e 12 0 0 (by omega) (by omega), e 13 0 0 (by omega) (by omega), e 14 0 0 (by omega) (by omega)]
  refine ⟨h0, h1, h2, h3, h4, fun i i0 i1 => ?_⟩
  rw [e 1 i 0 (by omega) (by omega), e 2 i 0 (by omega) (by omega), e 3 i 0 (by omega) (by omega), e 4 i 0 (by omega) (by omega)]
  exact h5 i i0 i1
theorem PV_cE {a b : gX} {y : gY} (h : PV a y) (e : cE (a 10 0 0) a b) : PV b y := by
  obtain ⟨h0, h1, h2, h3, h4⟩ := h
  unfold PV
  rw [e 10 0 0 (by omega), e 15 0 0 (by omega), trU_cE e, tcU_cE e, twU_cE e]
  refine ⟨h0, h1, h2, h3, fun i i0 i1 => ?_⟩
  rw [e 5 i 0 (by omega), e 6 i 0 (by omega)]
  exact h4 i i0 i1
theorem PG_y {x : gX} {y w : gY} (h : PG x y) (e : w 41 = y 41) : PG x w := by unfold PG; rw [e]; exact h
theorem PV_y {x : gX} {y w : gY} (h : PV x y) (e : w 42 = y 42) : PV x w := by unfold PV; rw [e]; exact h
/-- one deed more, done: p is the court behind it -/
def STP (u p v : gX) : Prop := EXT u v ∧ cE (u 10 0 0) p v ∧ v 16 0 0 = u 16 0 0 + 1 ∧ v 17 = u 17 ∧ v 20 = u 20
theorem STP_per {u : gX} {w h : Int} (hu : INV u) (hn : u 16 0 0 < 40) (hw : wOK u w h) (hs : w = 1 → u 5 h 0 < 3) (ht : w = 2 → u 6 h 0 = -9) : STP u (perM u w h) (perM u w h) := ⟨EXT_per hu hn hw hs ht, cE_rf _ _, perM_16 u w h, (per_1720 u w h).1, (per_1720 u w h).2⟩
theorem STP_tell {u p v : gX} (h : STP u p v) (a : Int) : STP u p (xU v 19 0 0 a) := by
  have k := KP_tell (KP_rf h.1.1) a
  exact ⟨EXT_tr h.1 k.1.1, fun k i j q => by rw [xU_k (by omega)]; exact h.2.1 k i j q, h.2.2.1, h.2.2.2.1, h.2.2.2.2⟩
theorem tri_ok {u : gX} {i : Int} (hu : INV u) (hn : u 16 0 0 < 40) (h0 : 0 ≤ i) (h1 : i < u 10 0 0) (h6 : u 6 i 0 = -9) : (sTrial u i).1 = vU u i (u 15 0 0) ∧ STP u (perM u 2 i) (sTrial u i).2 ∧ (sTrial u i).2 19 0 0 = if sWr (u 2 i 0) (vU u i (u 15 0 0)) then 1 else 0 := by
  have e : sTrial u i = (perM u 2 i 6 i 0, xU (perM u 2 i) 19 0 0 (if perM u 2 i 7 i 0 = 0 then 0 else 1)) := by
    unfold sTrial
    rw [if_neg (fun c => c ⟨h0, h1⟩), if_neg (fun c => c h6), if_neg (by omega)]
  rw [e]
  refine ⟨by rw [per2 h0 h1 (by omega), if_pos ⟨rfl, rfl⟩], STP_tell (STP_per hu hn (wOK2 h0 h1) (fun c => absurd c (by decide)) (fun _ => h6)) _, ?_⟩
  show xU (perM u 2 i) 19 0 0 (if perM u 2 i 7 i 0 = 0 then 0 else 1) 19 0 0 = _
  have p7 : perM u 2 i 7 i 0 = if sWr (u 2 i 0) (vU u i (u 15 0 0)) then 1 else 0 := by rw [per2 h0 h1 (by omega), if_neg (by omega), if_pos ⟨rfl, rfl⟩]
  rw [xU_same, p7]
  by_cases c : sWr (u 2 i 0) (vU u i (u 15 0 0))
  · rw [if_pos c]; rfl
  · rw [if_neg c]; rfl
theorem sal_ok {u : gX} {i : Int} (hu : INV u) (hn : u 16 0 0 < 40) (h0 : 0 ≤ i) (h1 : i < u 10 0 0) (h6 : u 6 i 0 = -9) (h5 : u 5 i 0 < 3) : (sSalve u i).1 = u 5 i 0 + 1 ∧ STP u (perM u 1 i) (sSalve u i).2 := by
  have e : sSalve u i = (perM u 1 i 5 i 0, perM u 1 i) := by
    unfold sSalve
    rw [if_neg (fun c => c ⟨h0, h1⟩), if_neg (by omega), if_neg (by omega)]
  rw [e]
  exact ⟨by rw [per1 h0 h1 (by omega), if_pos ⟨rfl, rfl⟩], STP_per hu hn (wOK1 h0 h1) (fun _ => h5) (fun c => absurd c (by decide))⟩
theorem hea_ok {u : gX} {v : Int} (hu : INV u) (hn : u 16 0 0 < 40) (h10 : u 10 0 0 ≠ 0) (hv : -5 ≤ v ∧ v ≤ 5) (hv0 : v ≠ 0) : (sHeat u v).1 = kH (u 15 0 0 + v) ∧ STP u (perM u 0 v) (sHeat u v).2 := by
  have e : sHeat u v = (perM u 0 v 15 0 0, perM u 0 v) := by
    unfold sHeat
    rw [if_neg (by omega), if_neg h10, if_neg (by omega)]
  rw [e]
  exact ⟨by rw [per0 hv (by omega), if_pos rfl], STP_per hu hn (wOK0 hv) (fun c => absurd c (by decide)) (fun c => absurd c (by decide))⟩
theorem PV_sal {u : gX} {w : gY} {i : Int} (h : PV u w) (h0 : 0 ≤ i) (h1 : i < u 10 0 0) (hn : u 10 0 0 ≤ 6) : PV (perM u 1 i) (yU w 42 (4 + i) (u 5 i 0 + 1)) := by
  obtain ⟨a0, a1, a2, a3, a4⟩ := h
  have e : ∀ k q : Int, k ≠ 5 → ((1 ≤ k ∧ k ≤ 7) ∧ 0 ≤ q ∧ q < u 10 0 0) ∨ (k = 15 ∧ q = 0) → perM u 1 i k q 0 = u k q 0 := fun k q c hk => by rw [per1 h0 h1 hk, if_neg (fun w => c w.1)]
  have e10 := per_10 u 1 i
  unfold PV
  rw [yU_at, yU_at, yU_at, yU_at, if_neg (by omega), if_neg (by omega), if_neg (by omega), if_neg (by omega), e 15 0 (by decide) (by omega), e10]
  refine ⟨a0, ?_, ?_, ?_, fun q q0 q1 => ?_⟩
  · rw [a1]
    show _ = sumZ (fun q => if perM u 1 i 6 q 0 ≠ -9 then p2 q else 0) (perM u 1 i 10 0 0)
    rw [e10]; exact sumZ_cong (fun q q0 q1 => by rw [e 6 q (by decide) (by omega)])
  · rw [a2]
    show _ = sumZ (fun q => if perM u 1 i 6 q 0 = 1 then 1 else 0) (perM u 1 i 10 0 0)
    rw [e10]; exact sumZ_cong (fun q q0 q1 => by rw [e 6 q (by decide) (by omega)])
  · rw [a3]
    show _ = sumZ (fun q => if perM u 1 i 7 q 0 = 1 then 1 else 0) (perM u 1 i 10 0 0)
    rw [e10]; exact sumZ_cong (fun q q0 q1 => by rw [e 7 q (by decide) (by omega)])
  · rw [yU_at, yU_at, e 6 q (by decide) (by omega), if_neg (show ¬ 10 + q = 4 + i by omega), per1 h0 h1 (by omega)]
    refine ⟨?_, (a4 q q0 q1).2⟩
    by_cases c : q = i
    · rw [if_pos (by omega), if_pos ⟨rfl, c⟩]
    · rw [if_neg (by omega), if_neg (fun w => c w.2)]; exact (a4 q q0 q1).1
theorem PV_hea {u : gX} {w : gY} {v : Int} (h : PV u w) (hv : -5 ≤ v ∧ v ≤ 5) : PV (perM u 0 v) (yU w 42 0 (kH (u 15 0 0 + v))) := by
  obtain ⟨a0, a1, a2, a3, a4⟩ := h
  have e : ∀ k q : Int, (1 ≤ k ∧ k ≤ 7) ∧ 0 ≤ q ∧ q < u 10 0 0 → perM u 0 v k q 0 = u k q 0 := fun k q hk => by rw [per0 hv (Or.inl hk), if_neg (by omega)]
  have e10 := per_10 u 0 v
  unfold PV
  rw [yU_same, yU_at, yU_at, yU_at, if_neg (by decide), if_neg (by decide), if_neg (by decide), per0 hv (Or.inr ⟨rfl, rfl⟩), if_pos rfl, e10]
  refine ⟨rfl, ?_, ?_, ?_, fun q q0 q1 => ?_⟩
  · rw [a1]
    show _ = sumZ (fun q => if perM u 0 v 6 q 0 ≠ -9 then p2 q else 0) (perM u 0 v 10 0 0)
    rw [e10]; exact sumZ_cong (fun q q0 q1 => by rw [e 6 q (by omega)])
  · rw [a2]
    show _ = sumZ (fun q => if perM u 0 v 6 q 0 = 1 then 1 else 0) (perM u 0 v 10 0 0)
    rw [e10]; exact sumZ_cong (fun q q0 q1 => by rw [e 6 q (by omega)])
  · rw [a3]
    show _ = sumZ (fun q => if perM u 0 v 7 q 0 = 1 then 1 else 0) (perM u 0 v 10 0 0)
    rw [e10]; exact sumZ_cong (fun q q0 q1 => by rw [e 7 q (by omega)])
  · rw [yU_at, yU_at, if_neg (by omega), if_neg (by omega), e 5 q (by omega), e 6 q (by omega)]
    exact a4 q q0 q1
theorem PV_tri {u : gX} {w : gY} {i : Int} (h0 : 0 ≤ i) (h1 : i < u 10 0 0) (h6 : u 6 i 0 = -9) (h7 : u 7 i 0 = 0) (a : w 42 0 = sBeh (u 14 0 0) (vU u i (u 15 0 0)) (tcU u + (if vU u i (u 15 0 0) = 1 then 1 else 0)) (u 15 0 0)) (b : w 42 1 = bitsZ (fun q => u 6 q 0 ≠ -9 ∨ q = i) (u 10 0 0)) (c : w 42 2 = tcU u + (if vU u i (u 15 0 0) = 1 then 1 else 0)) (d : w 42 3 = twU u + (if sWr (u 2 i 0) (vU u i (u 15 0 0)) then 1 else 0)) (e : ∀ q : Int, 0 ≤ q → q < u 10 0 0 → w 42 (4 + q) = u 5 q 0 ∧ w 42 (10 + q) = if q = i then vU u i (u 15 0 0) else u 6 q 0) : PV (perM u 2 i) w := by
  have t := per2_t h0 h1 h6 h7
  have hv := vU_r u i (u 15 0 0)
  refine ⟨a.trans t.2.2.2.symm, b.trans ?_, c.trans t.2.1.symm, d.trans t.1.symm, fun q q0 q1 => ?_⟩
  · show _ = bitsZ (fun q => perM u 2 i 6 q 0 ≠ -9) (perM u 2 i 10 0 0)
    rw [per_10]
    refine bitsZ_cong (fun q q0 q1 => ?_)
    rw [per2 h0 h1 (by omega)]
    by_cases g : q = i
    · rw [if_pos ⟨rfl, g⟩]; exact ⟨fun _ => by omega, fun _ => Or.inr g⟩
    · rw [if_neg (fun z => g z.2), if_neg (by omega)]; exact ⟨fun z => z.elim id (fun z => absurd z g), Or.inl⟩
  · rw [per_10] at q1
    rw [per2 h0 h1 (by omega), per2 h0 h1 (by omega), if_neg (by omega), if_neg (by omega)]
    refine ⟨(e q q0 q1).1, (e q q0 q1).2.trans ?_⟩
    by_cases g : q = i
    · rw [if_pos g, if_pos ⟨rfl, g⟩]
    · rw [if_neg g, if_neg (fun z => g z.2), if_neg (by omega)]
def SR (z u : gX) (k : Int) : Prop := EXT z u ∧ u 16 0 0 ≤ z 16 0 0 + k ∧ u 17 = z 17 ∧ u 20 = z 20
theorem SR_0 {z : gX} (h : INV z) : SR z z 0 := ⟨EXT_rf h, by omega, rfl, rfl⟩
theorem SR_s {z u p v : gX} {k : Int} (h : SR z u k) (s : STP u p v) : SR z v (k + 1) := ⟨EXT_tr h.1 s.1, by have := h.2.1; have := s.2.2.1; omega, s.2.2.2.1.trans h.2.2.1, s.2.2.2.2.trans h.2.2.2⟩
theorem SR_m {z u : gX} {k j : Int} (h : SR z u k) (e : k ≤ j) : SR z u j := ⟨h.1, by have := h.2.1; omega, h.2.2⟩
theorem b01 {c : Prop} [Decidable c] : i32 (if c then 1 else 0) := by split <;> exact ⟨by decide, by decide⟩
