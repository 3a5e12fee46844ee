theorem odA {z : gX} {r : Int} (q : ¬ (0 ≤ r ∧ r < 6)) : sOrder z r = (-1, z) := by
  have e : rRf z r = -1 := by unfold rRf; rw [if_pos q]
  unfold sOrder; rw [e, if_pos (by decide)]
theorem odB {z : gX} {r : Int} (q : 0 ≤ r ∧ r < 6) (h : z 10 0 0 = 0) : sOrder z r = (-4, z) := by
  have e : rRf z r = -4 := by unfold rRf; rw [if_neg (by omega), if_pos h]
  unfold sOrder; rw [e, if_pos (by decide)]
theorem odC {z : gX} {r : Int} (q : 0 ≤ r ∧ r < 6) (h : z 10 0 0 ≠ 0) : sOrder z r = ((ordB z).1, orM z r) := by
  unfold sOrder; rw [rRf_ok q h, if_neg (by decide)]
theorem bst_st {z : gX} {l : List (List Int)} {s : List Int} {t : List (List Int)} {b : Int} {L : List Int} {B : Int × List Int} (e : l = s :: t) (h : bst (vL z) (mU z l) (b, L) = B) : ((evZ z (ln (fnL (unU z)) s) (unL z : Int)).1 < b → bst (vL z) (mU z t) ((evZ z (ln (fnL (unU z)) s) (unL z : Int)).1, s.map (fnL (unU z))) = B) ∧ (¬ (evZ z (ln (fnL (unU z)) s) (unL z : Int)).1 < b → bst (vL z) (mU z t) (b, L) = B) := by
  subst e
  have h' : bst (vL z) (mU z t) (if (evZ z (ln (fnL (unU z)) s) (unL z : Int)).1 < b then ((evZ z (ln (fnL (unU z)) s) (unL z : Int)).1, s.map (fnL (unU z))) else (b, L)) = B := h
  exact ⟨fun c => by rw [if_pos c] at h'; exact h', fun c => by rw [if_neg c] at h'; exact h'⟩
/-- what the search for the best order leaves as it is, and the row with the best so far -/
def ORP (z : gX) (y w : gY) (r b : Int) (L : List Int) : Prop := (∀ k : Int, k ≠ 14 → k ≠ 40 → k ≠ 45 → k ≠ 46 → k ≠ 52 → w k = y k) ∧ w 14 0 = (unL z : Int) ∧ (∀ j : Int, j < 2628 → w 40 j = y 40 j) ∧ ((b = 999 ∧ w 45 = y 45 ∧ w 46 = y 46) ∨ ((0 ≤ b ∧ b < 7) ∧ w 45 r = (unL z : Int) ∧ (∀ j : Int, j ≠ r → w 45 j = y 45 j) ∧ (∀ j : Int, 0 ≤ j → j < (unL z : Int) → w 46 (40 * r + j) = fnL L j ∧ 0 ≤ fnL L j ∧ fnL L j < 6) ∧ ∀ j : Int, ¬ (40 * r ≤ j ∧ j < 40 * r + 40) → w 46 j = y 46 j))
theorem ORP_0 {z : gX} {y w : gY} {r : Int} (h : LLP z y w (z 10 0 0)) : ORP z y w r 999 [] := ⟨fun k a b c d e => h.1 k a e, h.2.1, fun j _ => by rw [h.1 40 (by decide) (by decide)], Or.inl ⟨rfl, h.1 45 (by decide) (by decide), h.1 46 (by decide) (by decide)⟩⟩
theorem ORP_b {z : gX} {y w : gY} {r b : Int} {L : List Int} (h : ORP z y w r b L) : 0 ≤ b ∧ b ≤ 999 := by
  rcases h.2.2.2 with c | c
  · omega
  · have := c.1; omega
theorem ORP_k {z : gX} {y w u : gY} {r b : Int} {L : List Int} (h : ORP z y w r b L) (e : ∀ k : Int, k ≠ 40 → k ≠ 52 → u k = w k) (e4 : ∀ j : Int, j < 2628 → u 40 j = w 40 j) : ORP z y u r b L := by
  unfold ORP
  rw [e 14 (by decide) (by decide), e 45 (by decide) (by decide), e 46 (by decide) (by decide)]
  exact ⟨fun k a b c d f => by rw [e k b f]; exact h.1 k a b c d f, h.2.1, fun j hj => (e4 j hj).trans (h.2.2.1 j hj), h.2.2.2⟩
theorem ORP_w {z Z : gX} {y w u : gY} {r b : Int} {L : List Int} (h : ORP z y w r b L) (g : WLP z w u Z) : ORP z y u r b L := ORP_k h (fun k a _ => g.1 k a) g.2.1
theorem ORP_x {z : gX} {y w u : gY} {r b : Int} {L : List Int} (h : ORP z y w r b L) (g : ∀ k : Int, k ≠ 52 → u k = w k) : ORP z y u r b L := ORP_k h (fun k _ a => g k a) (fun j _ => by rw [g 40 (by decide)])
theorem ORP_ST {z : gX} {y w : gY} {r b : Int} {L : List Int} (h : ORP z y w r b L) (h6 : z 10 0 0 ≤ 6) (hST : ST z y) : ST z w := ST_g (fun _ _ _ _ => rfl) ⟨fun k h0 h1 => by rw [h.1 k (by omega) (by omega) (by omega) (by omega) (by omega)], fun k j h0 h1 => by rw [h.1 k (by omega) (by omega) (by omega) (by omega) (by omega)], h.2.2.1⟩ h6 hST
theorem ORP_SB {z : gX} {y w : gY} {r b : Int} {L : List Int} (h : ORP z y w r b L) (hB : SB z y 0) : SB z w 0 := fun k k0 k1 => by rw [h.2.2.1 _ (by omega)]; exact hB k k0 k1
def itY (y : gY) (r : Int) (f : Int → Int) (j : Int) : gY := fun k q => if k = 46 ∧ 40 * r ≤ q ∧ q < 40 * r + j then f (q - 40 * r) else y k q
theorem itY_0 (y : gY) (r : Int) (f : Int → Int) : itY y r f 0 = y := by funext k q; unfold itY; rw [if_neg (by omega)]
theorem itY_s (y : gY) (r : Int) (f : Int → Int) {j : Int} (hj : 0 ≤ j) : yU (itY y r f j) 46 (40 * r + j) (f j) = itY y r f (j + 1) := by
  funext k q
  unfold yU itY
  by_cases h1 : k = 46 ∧ q = 40 * r + j
  · rw [if_pos h1, if_pos ⟨h1.1, by omega, by omega⟩, h1.2]; congr 1; omega
  · rw [if_neg h1]
    by_cases h2 : k = 46 ∧ 40 * r ≤ q ∧ q < 40 * r + j
    · rw [if_pos h2, if_pos ⟨h2.1, h2.2.1, by omega⟩]
    · rw [if_neg h2, if_neg (by omega)]
theorem itY_k (y : gY) (r : Int) (f : Int → Int) (j : Int) {k : Int} (h : k ≠ 46) : itY y r f j k = y k := by funext q; unfold itY; rw [if_neg (fun w => h w.1)]
abbrev mkY (u : gY) (r n : Int) : gY := zrM (yU u 45 r n) 46 (40 * r) 0 40
theorem mkY_k (u : gY) (r n : Int) {k : Int} (h5 : k ≠ 45) (h6 : k ≠ 46) : mkY u r n k = u k := by funext q; unfold mkY zrM; rw [if_neg (by omega), yU_k h5]
theorem ORP_t {z : gX} {y u : gY} {r b V : Int} {L : List Int} {f : Int → Int} {L2 : List Int} (h : ORP z y u r b L) (hV : 0 ≤ V ∧ V < 7) (h6 : (unL z : Int) ≤ 6) (hf : ∀ j : Int, f j = fnL L2 j) (hr : ∀ j : Int, 0 ≤ j → j < (unL z : Int) → 0 ≤ f j ∧ f j < 6) : ORP z y (itY (mkY u r (unL z : Int)) r f (unL z : Int)) r V L2 := by
  have kk : ∀ k : Int, k ≠ 45 → k ≠ 46 → itY (mkY u r (unL z : Int)) r f (unL z : Int) k = u k := fun k h5 h6 => by rw [itY_k _ _ _ _ h6, mkY_k _ _ _ h5 h6]
  have e45 : ∀ j : Int, itY (mkY u r (unL z : Int)) r f (unL z : Int) 45 j = if j = r then (unL z : Int) else u 45 j := fun j => by
    rw [itY_k _ _ _ _ (by decide)]
    unfold mkY zrM
    rw [if_neg (by omega), yU_at]
  refine ⟨fun k a b c d e => by rw [kk k c d]; exact h.1 k a b c d e, by rw [kk 14 (by decide) (by decide)]; exact h.2.1, fun j hj => by rw [kk 40 (by decide) (by decide)]; exact h.2.2.1 j hj, Or.inr ⟨hV, by rw [e45, if_pos rfl], fun j hj => ?_, fun j j0 j1 => ?_, fun j hj => ?_⟩⟩
  · rw [e45, if_neg hj]
    rcases h.2.2.2 with c | c
    · rw [c.2.1]
    · exact c.2.2.1 j hj
  · have q := hr j j0 j1
    rw [← hf j]
    refine ⟨?_, q⟩
    unfold itY
    rw [if_pos ⟨rfl, by omega, by omega⟩]; congr 1; omega
  · unfold itY mkY zrM
    rw [if_neg (by omega), if_neg (by omega), yU_k (by decide)]
    rcases h.2.2.2 with c | c
    · rw [c.2.2]
    · exact c.2.2.2.2 j hj
theorem orM_k (z : gX) (r : Int) {k : Int} (h1 : k ≠ 17) (h2 : k ≠ 20) : orM z r k = z k := by funext i j; unfold orM; rw [if_neg (fun q => h2 q.1), if_neg (fun q => h1 q.1)]
theorem OR_end {z : gX} {y w : gY} {r b : Int} {L : List Int} (hRel : Rel z y) (hr : 0 ≤ r ∧ r < 6) (h : ORP z y w r b L) (e : (b, L) = ordB z) : Rel (orM z r) w := by
  have hb := ordB_r hRel.1.1
  have hun := utN_r hRel.1.1
  rw [← e] at hb
  have c : (b = 999 ∧ w 45 = y 45 ∧ w 46 = y 46) ∨ ((0 ≤ b ∧ b < 7) ∧ w 45 r = (unL z : Int) ∧ (∀ j : Int, j ≠ r → w 45 j = y 45 j) ∧ (∀ j : Int, 0 ≤ j → j < (unL z : Int) → w 46 (40 * r + j) = fnL L j ∧ 0 ≤ fnL L j ∧ fnL L j < 6) ∧ ∀ j : Int, ¬ (40 * r ≤ j ∧ j < 40 * r + 40) → w 46 j = y 46 j) := h.2.2.2
  have hb2 : b < 7 := hb.2
  rcases c with c | c
  · exact absurd c.1 (by omega)
  obtain ⟨c1, c2, c3, c4, c5⟩ := c
  rw [← ut_L] at c2 c4
  have eL : (ordB z).2 = L := by rw [← e]
  have o17 : ∀ q : Int, orM z r 17 q 0 = if q = r then utN z else z 17 q 0 := fun q => by
    unfold orM
    rw [if_neg (by omega)]
    by_cases d : q = r
    · rw [if_pos ⟨rfl, d, rfl⟩, if_pos d]
    · rw [if_neg (fun v => d v.2.1), if_neg d]
  have o20 : ∀ q j : Int, orM z r 20 q j = if q = r ∧ 0 ≤ j ∧ j < utN z then fnL L j else z 20 q j := fun q j => by
    unfold orM
    rw [eL]
    by_cases d : q = r ∧ 0 ≤ j ∧ j < utN z
    · rw [if_pos ⟨rfl, d⟩, if_pos d]
    · rw [if_neg (fun v => d v.2), if_neg (by omega), if_neg d]
  obtain ⟨_, _, _, ⟨r1, r2⟩, t⟩ := id hRel
  refine Rel_g hRel (kE_g (fun k _ _ h17 _ _ h20 _ => orM_k z r h17 h20)) (kE_M (fun k _ _ h17 _ _ h20 _ => orM_k z r h17 h20) hRel.1.2.2.2.2) ?_ ⟨fun k h0 h1 => by rw [h.1 k (by omega) (by omega) (by omega) (by omega) (by omega)], fun k j h0 h1 => by rw [h.1 k (by omega) (by omega) (by omega) (by omega) (by omega)], h.2.2.1⟩ ⟨fun q q0 q1 => ?_, fun q q0 q1 => ?_⟩ ?_
  · intro q q0 q1
    obtain ⟨w1, w2, w3⟩ := hRel.1.2.1 q q0 q1
    rw [o17]
    refine ⟨?_, fun j => ?_, fun h6 j => ?_⟩
    · by_cases d : q = r
      · rw [if_pos d]; split <;> omega
      · rw [if_neg d]; exact w1
    · rw [o20]
      by_cases d : q = r ∧ 0 ≤ j ∧ j < utN z
      · rw [if_pos d]
        have g := (c4 j d.2.1 d.2.2).2
        omega
      · rw [if_neg d]; exact w2 j
    · rw [o20, if_neg (by omega)]; exact w3 h6 j
  · rw [o17]
    by_cases d : q = r
    · rw [if_pos d, d]
      refine ⟨c2, fun j j0 j1 => ?_⟩
      rw [o20, if_pos ⟨rfl, j0, j1⟩]; exact (c4 j j0 j1).1
    · rw [if_neg d, c3 q d]
      refine ⟨(r1 q q0 q1).1, fun j j0 j1 => ?_⟩
      have w1 := (hRel.1.2.1 q q0 (by omega)).1
      rw [o20, if_neg (fun v => d v.1), c5 _ (by split at w1 <;> omega)]
      exact (r1 q q0 q1).2 j j0 j1
  · rw [o17, if_neg (by omega), h.1 47 (by decide) (by decide) (by decide) (by decide) (by decide), h.1 48 (by decide) (by decide) (by decide) (by decide) (by decide)]
    refine ⟨(r2 q q0 q1).1, fun j j0 j1 => ?_⟩
    rw [o20, if_neg (by omega)]
    exact (r2 q q0 q1).2 j j0 j1
  · unfold TLR
    rw [orM_k z r (k := 19) (by decide) (by decide), orM_k z r (k := 18) (by decide) (by decide), orM_k z r (k := 8) (by decide) (by decide), orM_k z r (k := 9) (by decide) (by decide), orM_k z r (k := 26) (by decide) (by decide), h.1 6 (by decide) (by decide) (by decide) (by decide) (by decide), h.1 7 (by decide) (by decide) (by decide) (by decide) (by decide), h.1 8 (by decide) (by decide) (by decide) (by decide) (by decide), h.1 9 (by decide) (by decide) (by decide) (by decide) (by decide), h.1 49 (by decide) (by decide) (by decide) (by decide) (by decide)]
    exact t
