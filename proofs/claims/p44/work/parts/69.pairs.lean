/-! rows of pairs: which heats fit, whom to ask, whose hand and kind; turns -/
/-- the first k pairs of row 3 tell what trials tell by the heat of now -/
def PR (z u : gX) (k : Int) : Prop := ∀ q : Int, 0 ≤ q → q < k → (0 ≤ u 20 3 (2 * q) ∧ u 20 3 (2 * q) < z 10 0 0) ∧ u 20 3 (2 * q + 1) = vU z (u 20 3 (2 * q)) (z 15 0 0)
theorem PR_s {z u v w : gX} {k i : Int} (h : PR z u k) (hk : 0 ≤ k) (hi : 0 ≤ i ∧ i < z 10 0 0) (e1 : ∀ j : Int, v 20 3 j = if j = 2 * k then i else u 20 3 j) (e2 : ∀ j : Int, w 20 3 j = if j = 2 * k + 1 then vU z i (z 15 0 0) else v 20 3 j) : PR z w (k + 1) := fun q q0 q1 => by
  rw [e2, e2, if_neg (by omega)]
  by_cases c : q = k
  · rw [c, if_pos rfl, e1, if_pos rfl]; exact ⟨hi, rfl⟩
  · rw [if_neg (by omega), e1, e1, if_neg (by omega), if_neg (by omega)]; exact h q q0 (by omega)
/-- heats that fit -/
def FTZ (z r : gX) : Int := bitsZ (fun h => sumZ (fun q => if vU z (r 20 3 (2 * q)) h = r 20 3 (2 * q + 1) then 0 else 1) 2 = 0) 31
theorem ft_e {z r u : gX} (A : KP z r u) (h17 : r 17 3 0 = 4) (hp : PR z r 2) : ftU u 3 = FTZ z r := by
  have e17 : u 17 3 0 = 4 := by rw [A.2.1]; exact h17
  show bitsZ (fun h => ftP u 3 h (u 17 3 0 / 2)) 31 = _
  rw [e17, show (4 : Int) / 2 = 2 by decide]
  refine bitsZ_cong (fun h _ _ => ?_)
  have q : sumZ (fun q => if vU u (u 20 3 (2 * q)) h = u 20 3 (2 * q + 1) then 0 else 1) 2 = sumZ (fun q => if vU z (r 20 3 (2 * q)) h = r 20 3 (2 * q + 1) then 0 else 1) 2 := sumZ_cong (fun q q0 q1 => by
    have hq := (hp q q0 q1).1
    rw [A.2.2, vU_cE A.1.2.1 hq.1 hq.2])
  show sumZ _ 2 = 0 ↔ _
  rw [q]
theorem ft_r (z r : gX) : 0 ≤ FTZ z r ∧ FTZ z r < 2147483648 := bits_31
theorem ft_at {z r : gX} (h15 : 0 ≤ z 15 0 0 ∧ z 15 0 0 ≤ 30) (hp : PR z r 2) : FTZ z r / p2 (z 15 0 0) % 2 = 1 := by
  unfold FTZ
  rw [bit_of (P := fun h => sumZ (fun q => if vU z (r 20 3 (2 * q)) h = r 20 3 (2 * q + 1) then 0 else 1) 2 = 0) h15.1 (by omega), if_pos]
  exact (mmZ_iff (P := fun q => vU z (r 20 3 (2 * q)) (z 15 0 0) = r 20 3 (2 * q + 1)) (by decide)).mpr (fun q q0 q1 => (hp q q0 q1).2.symm)
theorem tR_0 {z r u : gX} (A : KP z r u) (hn : 1 ≤ z 10 0 0) (h17 : r 17 3 0 = 4) (hp : PR z r 2) : tRf u 3 = (0, u) := by
  have e10 := KP_10 A
  have e17 : u 17 3 0 = 4 := by rw [A.2.1]; exact h17
  have p : pfU u 3 (u 10 0 0) = 0 := by
    unfold pfU
    rw [e17, if_neg (by decide), if_neg (by decide), if_pos]
    refine (mmZ_iff (P := fun j => 0 ≤ u 20 3 j ∧ u 20 3 j < (if j % 2 = 0 then u 10 0 0 else 3)) (by decide)).mpr (fun j j0 j1 => ?_)
    have a := hp 0 (by decide) (by decide)
    have b := hp 1 (by decide) (by decide)
    have va := vU_r z (r 20 3 (2 * 0)) (z 15 0 0)
    have vb := vU_r z (r 20 3 (2 * 1)) (z 15 0 0)
    rw [show (2 : Int) * 0 = 0 by decide, show (0 : Int) + 1 = 1 by decide] at a
    rw [show (2 : Int) * 1 = 2 by decide, show (2 : Int) + 1 = 3 by decide] at b
    rw [show (2 : Int) * 0 = 0 by decide] at va
    rw [show (2 : Int) * 1 = 2 by decide] at vb
    rw [A.2.2, e10]
    rcases (show j = 0 ∨ j = 1 ∨ j = 2 ∨ j = 3 by omega) with rfl | rfl | rfl | rfl
    · rw [if_pos (by decide)]; exact a.1
    · rw [if_neg (by decide), a.2]; omega
    · rw [if_pos (by decide)]; exact b.1
    · rw [if_neg (by decide), b.2]; omega
  unfold tRf
  rw [show rRf u 3 = 0 by unfold rRf; rw [if_neg (by decide), if_neg (by omega)], if_neg (fun c => c rfl), if_pos p]
theorem fits_k {z r u : gX} (A : KP z r u) (hn : 1 ≤ z 10 0 0) (h17 : r 17 3 0 = 4) (hp : PR z r 2) : (sFits u 3).1 = FTZ z r ∧ KP z r (sFits u 3).2 ∧ (sFits u 3).2 19 0 0 = pcZ (FTZ z r) := by
  have e : sFits u 3 = (FTZ z r, xU u 19 0 0 (pcZ (FTZ z r))) := by
    unfold sFits
    rw [tR_0 A hn h17 hp, if_neg (fun c => c rfl), ft_e A h17 hp]
  rw [e]
  exact ⟨rfl, KP_tell A _, xU_same u 19 0 0 _⟩
theorem bs_c {f g : Int → Int} : ∀ k : Nat, (∀ q : Int, 0 ≤ q → q ≤ k → f q = g q) → bsN f k = bsN g k
  | 0, h => by show (0, f 0) = (0, g 0); rw [h 0 (Int.le_refl _) (Int.le_refl _)]
  | k + 1, h => by
    show (if f ((k : Int) + 1) < (bsN f k).2 then ((k : Int) + 1, f ((k : Int) + 1)) else bsN f k) = if g ((k : Int) + 1) < (bsN g k).2 then ((k : Int) + 1, g ((k : Int) + 1)) else bsN g k
    rw [bs_c k (fun q a b => h q a (by omega)), h ((k : Int) + 1) (by omega) (by omega)]
abbrev akB (z : gX) (s : Int) : Int × Int := bsN (fun i => gpU z i s) (z 10 0 0 - 1).toNat
theorem ask_k {z r u : gX} (A : KP z r u) (hn : 1 ≤ z 10 0 0) (h17 : r 17 3 0 = 4) (hp : PR z r 2) (hf : FTZ z r ≠ 0) : (sAsk u 3).1 = (akB z (FTZ z r)).1 ∧ KP z r (sAsk u 3).2 ∧ (sAsk u 3).2 19 0 0 = (akB z (FTZ z r)).2 := by
  have e10 := KP_10 A
  have eb : bsN (fun i => gpU u i (FTZ z r)) (u 10 0 0 - 1).toNat = akB z (FTZ z r) := by
    rw [e10]
    exact bs_c _ (fun q q0 q1 => gp_cE A.1.2.1 q0 (by omega) _)
  have e : sAsk u 3 = ((akB z (FTZ z r)).1, xU u 19 0 0 (akB z (FTZ z r)).2) := by
    unfold sAsk
    rw [tR_0 A hn h17 hp, if_neg (fun c => c rfl), ft_e A h17 hp, if_neg hf, eb]
  rw [e]
  exact ⟨rfl, KP_tell A _, xU_same u 19 0 0 _⟩
theorem ak_f {z : gX} (hn : 1 ≤ z 10 0 0) (s : Int) : (0 ≤ (akB z s).1 ∧ (akB z s).1 < z 10 0 0) ∧ (akB z s).2 = gpU z (akB z s).1 s ∧ (∀ q : Int, 0 ≤ q → q < (akB z s).1 → (akB z s).2 < gpU z q s) ∧ ∀ q : Int, 0 ≤ q → q < z 10 0 0 → (akB z s).2 ≤ gpU z q s := by
  have a := bs_at (fun i => gpU z i s) (z 10 0 0 - 1).toNat
  have b := bs_le (fun i => gpU z i s) (z 10 0 0 - 1).toNat
  exact ⟨⟨a.1.1, by have q : (akB z s).1 ≤ ((z 10 0 0 - 1).toNat : Int) := a.1.2; omega⟩, a.2.1, a.2.2, fun q q0 q1 => b q q0 (by omega)⟩
theorem mx_le {f : Int → Int} {j : Nat} : ∀ n : Nat, j < n → f (j : Int) ≤ mxN f n
  | 0, h => absurd h (Nat.not_lt_zero _)
  | k + 1, h => by
    show f (j : Int) ≤ max (mxN f k) (f (k : Int))
    by_cases c : j = k
    · rw [c]; omega
    · have := mx_le (f := f) (j := j) k (by omega); omega
theorem mx_ub {f : Int → Int} {B : Int} (hB : 0 ≤ B) (h : ∀ j : Int, f j ≤ B) : ∀ n : Nat, mxN f n ≤ B
  | 0 => hB
  | k + 1 => by
    have a := mx_ub hB h k
    have b := h (k : Int)
    show max (mxN f k) (f (k : Int)) ≤ B
    omega
theorem cnt_at {P : Int → Prop} [DecidablePred P] {i : Nat} (hi : P (i : Int)) : ∀ n : Nat, i < n → 1 ≤ sumN (fun i => if P i then 1 else 0) n
  | 0, h => absurd h (Nat.not_lt_zero _)
  | k + 1, h => by
    have z := (cntZ_r (P := P) (n := (k : Int)) (by omega)).1
    have z : 0 ≤ sumN (fun i => if P i then 1 else 0) k := z
    show 1 ≤ sumN (fun i => if P i then 1 else 0) k + (if P (k : Int) then 1 else 0)
    by_cases c : i = k
    · rw [← c, if_pos hi]
      rw [← c] at z
      omega
    · have := cnt_at hi k (by omega)
      split <;> omega
theorem cnt_le {P Q : Int → Prop} [DecidablePred P] [DecidablePred Q] (h : ∀ i : Int, P i → Q i) : ∀ n : Nat, sumN (fun i => if P i then 1 else 0) n ≤ sumN (fun i => if Q i then 1 else 0) n
  | 0 => Int.le_refl _
  | k + 1 => by
    have a := cnt_le h k
    show sumN (fun i => if P i then 1 else 0) k + (if P (k : Int) then 1 else 0) ≤ sumN (fun i => if Q i then 1 else 0) k + (if Q (k : Int) then 1 else 0)
    by_cases c : P (k : Int)
    · rw [if_pos c, if_pos (h _ c)]; omega
    · rw [if_neg c]; split <;> omega
abbrev ctZ (z : gX) (s i v : Int) : Int := sumZ (fun h => if s / p2 h % 2 = 1 ∧ vU z i h = v then 1 else 0) 31
theorem ct_r (z : gX) (s i v : Int) : 0 ≤ ctZ z s i v ∧ ctZ z s i v ≤ 31 := cntZ_r (by decide)
theorem pc_e (s : Int) : pcZ s = sumZ (fun h => if s / p2 h % 2 = 1 then 1 else 0) 31 := sumZ_cong (fun h _ _ => by
  have a := Int.emod_nonneg (s / p2 h) (by decide : (2 : Int) ≠ 0)
  have b := Int.emod_lt_of_pos (s / p2 h) (by decide : (0 : Int) < 2)
  show s / p2 h % 2 = if s / p2 h % 2 = 1 then 1 else 0
  split <;> omega)
theorem pc_r (s : Int) : 0 ≤ pcZ s ∧ pcZ s ≤ 31 := by rw [pc_e]; exact cntZ_r (by decide)
/-- a part of heats that fit: one at least, all at most -/
theorem gp_f {z : gX} {i s h : Int} (hh : 0 ≤ h ∧ h ≤ 30) (hb : s / p2 h % 2 = 1) : 1 ≤ gpU z i s ∧ gpU z i s ≤ pcZ s := by
  refine ⟨?_, ?_⟩
  · have hv := vU_r z i h
    have a : 1 ≤ ctZ z s i (vU z i h) := by
      have := cnt_at (P := fun q => s / p2 q % 2 = 1 ∧ vU z i q = vU z i h) (i := h.toNat) (by rw [Int.toNat_of_nonneg hh.1]; exact ⟨hb, rfl⟩) 31 (by omega)
      exact this
    have b := mx_le (f := fun v => ctZ z s i v) (j := (vU z i h).toNat) 3 (by omega)
    rw [Int.toNat_of_nonneg hv.1] at b
    exact Int.le_trans a b
  · rw [pc_e]
    exact mx_ub (f := fun v => ctZ z s i v) (cntZ_r (P := fun h => s / p2 h % 2 = 1) (n := 31) (by decide)).1 (fun v => cnt_le (P := fun h => s / p2 h % 2 = 1 ∧ vU z i h = v) (Q := fun h => s / p2 h % 2 = 1) (fun _ c => c.1) 31) 3
theorem an_ht {z : gX} {s i v : Int} (hs : 0 ≤ s ∧ s < 2147483648) : J s &&& J (htU z i v) = J (bitsZ (fun h => s / p2 h % 2 = 1 ∧ vU z i h = v) 31) := and_bits (Q := fun h => vU z i h = v) 31 hs.1 (by
  have : p2 ((31 : Nat) : Int) = 2147483648 := by decide +kernel
  omega)
/-- one pair of row 4: heat of now, what a trial tells by it -/
theorem vR_0 {z r u : gX} (A : KP z r u) {i : Int} (h0 : 0 ≤ i) (h1 : i < z 10 0 0) (h15 : 0 ≤ z 15 0 0 ∧ z 15 0 0 ≤ 30) (h17 : r 17 4 0 = 2) (p0 : r 20 4 0 = z 15 0 0) (p1 : r 20 4 1 = vU z i (z 15 0 0)) : vRf u i 4 = (0, u) := by
  have e10 := KP_10 A
  have e17 : u 17 4 0 = 2 := by rw [A.2.1]; exact h17
  have hv := vU_r z i (z 15 0 0)
  have p : pfU u 4 31 = 0 := by
    unfold pfU
    rw [e17, if_neg (by decide), if_neg (by decide), if_pos]
    refine (mmZ_iff (P := fun j => 0 ≤ u 20 4 j ∧ u 20 4 j < (if j % 2 = 0 then 31 else 3)) (by decide)).mpr (fun j j0 j1 => ?_)
    rw [A.2.2]
    rcases (show j = 0 ∨ j = 1 by omega) with rfl | rfl
    · rw [if_pos (by decide), p0]; omega
    · rw [if_neg (by decide), p1]; omega
  unfold vRf
  rw [if_neg (fun c => c ⟨⟨h0, by rw [e10]; exact h1⟩, by decide, by decide⟩), if_pos p]
theorem wk_at {z r u : gX} (A : KP z r u) {i : Int} (h0 : 0 ≤ i) (h1 : i < z 10 0 0) (h17 : r 17 4 0 = 2) (p0 : r 20 4 0 = z 15 0 0) (p1 : r 20 4 1 = vU z i (z 15 0 0)) : wkP u i (u 1 i 0) (u 4 i 0) 4 := by
  have e17 : u 17 4 0 = 2 := by rw [A.2.1]; exact h17
  show sumZ (fun q => if vKH u i (u 1 i 0) (u 4 i 0) (u 20 4 (2 * q)) = u 20 4 (2 * q + 1) then 0 else 1) (u 17 4 0 / 2) = 0
  rw [e17, show (2 : Int) / 2 = 1 by decide]
  refine (mmZ_iff (P := fun q => vKH u i (u 1 i 0) (u 4 i 0) (u 20 4 (2 * q)) = u 20 4 (2 * q + 1)) (by decide)).mpr (fun q q0 q1 => ?_)
  have e : q = 0 := by omega
  rw [e, A.2.2]
  show vKH u i (u 1 i 0) (u 4 i 0) (r 20 4 0) = r 20 4 1
  rw [p0, p1]
  show vU u i (z 15 0 0) = _
  exact vU_cE A.1.2.1 h0 h1 _
theorem hnd_k {z r u : gX} (A : KP z r u) {i : Int} (h0 : 0 ≤ i) (h1 : i < z 10 0 0) (h15 : 0 ≤ z 15 0 0 ∧ z 15 0 0 ≤ 30) (h17 : r 17 4 0 = 2) (p0 : r 20 4 0 = z 15 0 0) (p1 : r 20 4 1 = vU z i (z 15 0 0)) : ((0 ≤ (sHands u i 4).1 ∧ (sHands u i 4).1 ≤ 1023) ∧ (sHands u i 4).1 / p2 (z 4 i 0) % 2 = 1) ∧ (sHands u i 4).2 = u := by
  have e : sHands u i 4 = (bitsZ (fun d => wkP u i (u 1 i 0) d 4) 10, u) := by
    unfold sHands
    rw [vR_0 A h0 h1 h15 h17 p0 p1, if_neg (fun c => c rfl)]
  have b := bitZ_r (P := fun d => wkP u i (u 1 i 0) d 4) (n := 10) (by decide)
  have w := wk_at A h0 h1 h17 p0 p1
  have e10 := KP_10 A
  have m := ((KP_I A).1.2.2.2 i h0 (by rw [e10]; exact h1)).2.2.2.1
  have e4 : u 4 i 0 = z 4 i 0 := A.1.2.1 4 i 0 (by omega)
  rw [e4] at m w
  rw [e]
  have p10 : p2 10 = 1024 := by decide +kernel
  refine ⟨⟨⟨b.1, ?_⟩, ?_⟩, rfl⟩
  · have b2 : bitsZ (fun d => wkP u i (u 1 i 0) d 4) 10 < p2 10 := b.2
    show bitsZ (fun d => wkP u i (u 1 i 0) d 4) 10 ≤ 1023
    omega
  · show bitsZ (fun d => wkP u i (u 1 i 0) d 4) 10 / p2 (z 4 i 0) % 2 = 1
    have q := bit_of (P := fun d => wkP u i (u 1 i 0) d 4) (n := 10) m.1 (by omega)
    exact q.trans (if_pos w)
theorem knd_k {z r u : gX} (A : KP z r u) {i : Int} (h0 : 0 ≤ i) (h1 : i < z 10 0 0) (h15 : 0 ≤ z 15 0 0 ∧ z 15 0 0 ≤ 30) (h17 : r 17 4 0 = 2) (p0 : r 20 4 0 = z 15 0 0) (p1 : r 20 4 1 = vU z i (z 15 0 0)) : ((0 ≤ (sKinds u i 4).1 ∧ (sKinds u i 4).1 ≤ 63) ∧ (sKinds u i 4).1 / p2 (z 1 i 0) % 2 = 1) ∧ (sKinds u i 4).2 = u := by
  have e : sKinds u i 4 = (bitsZ (fun k => wkP u i k (u 4 i 0) 4) 6, u) := by
    unfold sKinds
    rw [vR_0 A h0 h1 h15 h17 p0 p1, if_neg (fun c => c rfl)]
  have b := bitZ_r (P := fun k => wkP u i k (u 4 i 0) 4) (n := 6) (by decide)
  have w := wk_at A h0 h1 h17 p0 p1
  have e10 := KP_10 A
  have m := ((KP_I A).1.2.2.2 i h0 (by rw [e10]; exact h1)).1
  have e1 : u 1 i 0 = z 1 i 0 := A.1.2.1 1 i 0 (by omega)
  rw [e1] at m w
  rw [e]
  have p6 : p2 6 = 64 := by decide +kernel
  refine ⟨⟨⟨b.1, ?_⟩, ?_⟩, rfl⟩
  · have b2 : bitsZ (fun k => wkP u i k (u 4 i 0) 4) 6 < p2 6 := b.2
    show bitsZ (fun k => wkP u i k (u 4 i 0) 4) 6 ≤ 63
    omega
  · show bitsZ (fun k => wkP u i k (u 4 i 0) 4) 6 / p2 (z 1 i 0) % 2 = 1
    have q := bit_of (P := fun k => wkP u i k (u 4 i 0) 4) (n := 6) m.1 (by omega)
    exact q.trans (if_pos w)
/-! turns -/
theorem chN_p {f : Int → Int} {h : Int} {P : Prop} [Decidable P] : ∀ k : Nat, (P → chN f h P k ≤ f h) ∧ (¬ P → f h ≤ chN f h P k)
  | 0 => ⟨fun _ => Int.le_refl _, fun _ => Int.le_refl _⟩
  | k + 1 => by
    have a := chN_p (f := f) (h := h) (P := P) k
    show (P → (if P then min (chN f h P k) (f (kH (h + ((k : Int) - 3)))) else max (chN f h P k) (f (kH (h + ((k : Int) - 3))))) ≤ f h) ∧ (¬ P → f h ≤ if P then min (chN f h P k) (f (kH (h + ((k : Int) - 3)))) else max (chN f h P k) (f (kH (h + ((k : Int) - 3)))))
    refine ⟨fun p => ?_, fun p => ?_⟩
    · rw [if_pos p]; have := a.1 p; omega
    · rw [if_neg p]; have := a.2 p; omega
theorem chN_m {f g : Int → Int} {h : Int} {P Q : Prop} [Decidable P] [Decidable Q] (hPQ : P ↔ Q) (hf : ∀ q : Int, f q ≤ g q) : ∀ k : Nat, chN f h P k ≤ chN g h Q k
  | 0 => hf h
  | k + 1 => by
    have a := chN_m (h := h) hPQ hf k
    have b := hf (kH (h + ((k : Int) - 3)))
    show (if P then min (chN f h P k) (f (kH (h + ((k : Int) - 3)))) else max (chN f h P k) (f (kH (h + ((k : Int) - 3))))) ≤ if Q then min (chN g h Q k) (g (kH (h + ((k : Int) - 3)))) else max (chN g h Q k) (g (kH (h + ((k : Int) - 3))))
    by_cases p : P
    · rw [if_pos p, if_pos (hPQ.mp p)]; omega
    · rw [if_neg p, if_neg (fun q => p (hPQ.mpr q))]; omega
theorem chN_b {f : Int → Int} {h B : Int} {P : Prop} [Decidable P] (hf : ∀ q : Int, 0 ≤ f q ∧ f q ≤ B) : ∀ k : Nat, 0 ≤ chN f h P k ∧ chN f h P k ≤ B
  | 0 => hf h
  | k + 1 => by
    have a := chN_b (h := h) (P := P) hf k
    have b := hf (kH (h + ((k : Int) - 3)))
    show 0 ≤ (if P then min (chN f h P k) (f (kH (h + ((k : Int) - 3)))) else max (chN f h P k) (f (kH (h + ((k : Int) - 3))))) ∧ (if P then min (chN f h P k) (f (kH (h + ((k : Int) - 3)))) else max (chN f h P k) (f (kH (h + ((k : Int) - 3))))) ≤ B
    split <;> omega
theorem dwN_b {f : Int → Int} {n B : Int} (hf : ∀ q : Int, 0 ≤ f q ∧ f q ≤ B) : ∀ (t : Nat) (h : Int), 0 ≤ dwN f n t h ∧ dwN f n t h ≤ B
  | 0, h => hf h
  | t + 1, h => chN_b (fun q => dwN_b hf t q) 7
abbrev dwZ (z : gX) (n : Int) : Int := dwN (fun h => foU z h) n n.toNat (z 15 0 0)
theorem fo_r {z : gX} (hN : NOK z) (h : Int) : 0 ≤ foU z h ∧ foU z h ≤ z 10 0 0 := cntZ_r hN.2.1.1
theorem dw_f {z : gX} (hN : NOK z) (n : Int) : 0 ≤ dwZ z n ∧ dwZ z n ≤ z 10 0 0 := dwN_b (fun q => fo_r hN q) _ _
theorem dw_0 (z : gX) : dwZ z 0 = foU z (z 15 0 0) := rfl
theorem dw_1 (z : gX) : dwZ z 1 ≤ foU z (z 15 0 0) := (chN_p (f := fun h => foU z h) (h := z 15 0 0) (P := ((1 : Int) - 1 - ((0 : Nat) : Int)) % 2 = 0) 7).1 (by decide)
theorem dw_2 (z : gX) : dwZ z 1 ≤ dwZ z 2 := chN_m (f := fun h => foU z h) (g := dwN (fun h => foU z h) 2 1) (h := z 15 0 0) (P := ((1 : Int) - 1 - ((0 : Nat) : Int)) % 2 = 0) (Q := ((2 : Int) - 1 - ((1 : Nat) : Int)) % 2 = 0) (by decide) (fun q => (chN_p (f := fun h => foU z h) (h := q) (P := ((2 : Int) - 1 - ((0 : Nat) : Int)) % 2 = 0) 7).2 (by decide)) 7
theorem dw_3 (z : gX) : dwZ z 3 ≤ dwZ z 2 := chN_m (f := dwN (fun h => foU z h) 3 2) (g := dwN (fun h => foU z h) 2 1) (h := z 15 0 0) (P := ((3 : Int) - 1 - ((2 : Nat) : Int)) % 2 = 0) (Q := ((2 : Int) - 1 - ((1 : Nat) : Int)) % 2 = 0) (by decide) (fun q => chN_m (f := dwN (fun h => foU z h) 3 1) (g := fun h => foU z h) (h := q) (P := ((3 : Int) - 1 - ((1 : Nat) : Int)) % 2 = 0) (Q := ((2 : Int) - 1 - ((0 : Nat) : Int)) % 2 = 0) (by decide) (fun w => (chN_p (f := fun h => foU z h) (h := w) (P := ((3 : Int) - 1 - ((0 : Nat) : Int)) % 2 = 0) 7).1 (by decide)) 7) 7
theorem dw_4 (z : gX) : dwZ z 3 ≤ dwZ z 4 := chN_m (f := dwN (fun h => foU z h) 3 2) (g := dwN (fun h => foU z h) 4 3) (h := z 15 0 0) (P := ((3 : Int) - 1 - ((2 : Nat) : Int)) % 2 = 0) (Q := ((4 : Int) - 1 - ((3 : Nat) : Int)) % 2 = 0) (by decide) (fun q => chN_m (f := dwN (fun h => foU z h) 3 1) (g := dwN (fun h => foU z h) 4 2) (h := q) (P := ((3 : Int) - 1 - ((1 : Nat) : Int)) % 2 = 0) (Q := ((4 : Int) - 1 - ((2 : Nat) : Int)) % 2 = 0) (by decide) (fun w => chN_m (f := fun h => foU z h) (g := dwN (fun h => foU z h) 4 1) (h := w) (P := ((3 : Int) - 1 - ((0 : Nat) : Int)) % 2 = 0) (Q := ((4 : Int) - 1 - ((1 : Nat) : Int)) % 2 = 0) (by decide) (fun a => (chN_p (f := fun h => foU z h) (h := a) (P := ((4 : Int) - 1 - ((0 : Nat) : Int)) % 2 = 0) 7).2 (by decide)) 7) 7) 7
theorem du_k {z r u v : gX} {n : Int} (A : KP z r u) (hn : 1 ≤ z 10 0 0) (h : 0 ≤ n ∧ n ≤ 6) (hG : xG (sDuel u n).2 v) : (sDuel u n).1 = dwZ z n ∧ KP z r v := by
  have e10 := KP_10 A
  have ef : (fun h => foU u h) = fun h => foU z h := funext fun h => fo_cE A.1.2.1 h
  have e : sDuel u n = (dwZ z n, u) := by
    unfold sDuel
    rw [if_neg (by omega), if_neg (by omega), ef, A.1.2.1 15 0 0 (by omega)]
  rw [e] at hG ⊢
  exact ⟨rfl, KP_xG A hG⟩
