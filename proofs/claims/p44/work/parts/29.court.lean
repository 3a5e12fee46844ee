def xG (a b : gX) : Prop := xE a b ∧ (dOK a → dOK b)
theorem xG_rf (a : gX) : xG a a := ⟨xE_rf a, id⟩
theorem actM_NOK2 {x : gX} {w h : Int} (hN : NOK x) (hw : wOK x w h) (hs : w = 1 → x 5 h 0 ≤ 60) : NOK (actM x w h) := by
  unfold actM
  split
  · exact NOK_15 hN (kH_r _)
  · split
    · rename_i h1
      have := hs h1
      have := hN.2.2.2 h (by omega) (by omega)
      exact NOK_5 hN (by omega)
    · split
      · rename_i h2
        have hv := vU_r x h (x 15 0 0)
        exact NOK_15 (NOK_7 (NOK_6 hN (by omega)) (by split <;> omega)) (sBeh_r hN.2.2.1)
      · exact hN
abbrev addM (x : gX) (w h : Int) : gX := xU (xU (xU x 21 0 (x 16 0 0) w) 22 0 (x 16 0 0) h) 16 0 0 (x 16 0 0 + 1)
theorem addM_k (x : gX) (w h : Int) {k : Int} (h1 : k ≠ 16) (h2 : k ≠ 21) (h3 : k ≠ 22) : addM x w h k = x k := by unfold addM; rw [xU_k h1, xU_k h3, xU_k h2]
theorem perM_NOK {x : gX} {w h : Int} (hN : NOK x) (hw : wOK x w h) (hs : w = 1 → x 5 h 0 ≤ 60) : NOK (perM x w h) :=
  actM_NOK2 (NOK_k (x := x) (fun k hk => addM_k x w h (by omega) (by omega) (by omega)) hN) hw hs
/-- the supposed one is like the i-th, with one number of another's -/
abbrev lkM (x : gX) (i k v : Int) : gX := xU (likeM x i) k 6 0 v
theorem likeM_o (x : gX) {i k q j : Int} (h : ¬ (q = 6 ∧ 1 ≤ k ∧ k ≤ 5)) : likeM x i k q j = x k q j := by
  unfold likeM xU
  rw [if_neg (by omega), if_neg (by omega), if_neg (by omega), if_neg (by omega), if_neg (by omega)]
theorem lkM_o (x : gX) {i k0 v k q j : Int} (hk : 1 ≤ k0 ∧ k0 ≤ 5) (h : ¬ (q = 6 ∧ 1 ≤ k ∧ k ≤ 5)) : lkM x i k0 v k q j = x k q j := by
  show (if k = k0 ∧ q = 6 ∧ j = 0 then v else likeM x i k q j) = _
  rw [if_neg (by omega), likeM_o x h]
theorem lkM_i (x : gX) {i k0 v k q : Int} (hk : 1 ≤ k0 ∧ k0 ≤ 5) (hq : q ≠ 6) : lkM x i k0 v k q = x k q := by funext j; exact lkM_o x hk (by omega)
theorem lkM_k (x : gX) {i k0 v k : Int} (hk : 1 ≤ k0 ∧ k0 ≤ 5) (h : ¬ (1 ≤ k ∧ k ≤ 5)) : lkM x i k0 v k = x k := by funext q j; exact lkM_o x hk (by omega)
theorem xG_lk (x : gX) {i k0 v : Int} (hk : 1 ≤ k0 ∧ k0 ≤ 5) : xG x (lkM x i k0 v) := ⟨fun k q j h => lkM_o x hk (by omega), fun h => by unfold dOK; rw [lkM_k x hk (by decide), lkM_k x hk (by decide)]; exact h⟩
theorem MOK_lk {x : gX} {i k0 v : Int} (hi : 0 ≤ i ∧ i < 6) (hm : MOK x i) (hs : MSC x) (hk : (k0 = 1 ∧ 0 ≤ v ∧ v ≤ 5) ∨ (k0 = 4 ∧ 0 ≤ v ∧ v ≤ 9)) : MOK (lkM x i k0 v) 6 := by
  have e6 : lkM x i k0 v 6 = x 6 := lkM_k x (by omega) (by decide)
  have e7 : lkM x i k0 v 7 = x 7 := lkM_k x (by omega) (by decide)
  have h2 := hs.2
  rcases hk with ⟨rfl, hv⟩ | ⟨rfl, hv⟩
  · refine ⟨hv, hm.2.1, hm.2.2.1, hm.2.2.2.1, hm.2.2.2.2.1, ?_, ?_⟩
    · rw [e6]; omega
    · rw [e7]; omega
  · refine ⟨hm.1, hm.2.1, hm.2.2.1, hv, hm.2.2.2.2.1, ?_, ?_⟩
    · rw [e6]; omega
    · rw [e7]; omega
theorem MOK_lo {x : gX} {i k0 v q : Int} (hk : 1 ≤ k0 ∧ k0 ≤ 5) (hq : q ≠ 6) (hm : MOK x q) : MOK (lkM x i k0 v) q := by
  unfold MOK
  rw [lkM_i x hk hq, lkM_i x hk hq, lkM_i x hk hq, lkM_i x hk hq, lkM_i x hk hq, lkM_i x hk hq, lkM_i x hk hq]
  exact hm
theorem NOK_lk {x : gX} {i k0 v : Int} (hk : 1 ≤ k0 ∧ k0 ≤ 5) (hN : NOK x) : NOK (lkM x i k0 v) := by
  unfold NOK IOK
  rw [lkM_k (k := 10) x hk (by decide), lkM_k (k := 11) x hk (by decide), lkM_k (k := 12) x hk (by decide), lkM_k (k := 13) x hk (by decide), lkM_k (k := 14) x hk (by decide), lkM_k (k := 15) x hk (by decide)]
  exact ⟨hN.1, hN.2.1, hN.2.2.1, fun q h0 h1 => MOK_lo hk (by omega) (hN.2.2.2 q h0 h1)⟩
/-! readings -/
theorem eN_0 (t : Int → Int) (n : Int) : ∀ k : Nat, 0 ≤ eN t n k
  | 0 => by have := (sk_r t n 0).1; show 0 ≤ sk t n 0 + 5; omega
  | k + 1 => by have := (sk_r t n (eN t n k)).1; have := eN_0 t n k; show 0 ≤ sk t n (eN t n k) + 4; omega
theorem qP_0 (t : Int → Int) (n i : Int) : 0 ≤ qP t n i := by
  have := (sk_r t n (eP t n i)).1
  have := eN_0 t n i.toNat
  unfold qP
  unfold eP at *
  omega
abbrev mnO (t : Int → Int) (n p : Int) : Prop := (0 ≤ kdO (t p) ∧ kdO (t p) ≤ 5) ∧ fgP t n (p + 1) 0 1 ∧ fgP t n (p + 2) 0 9 ∧ fgP t n (p + 3) 0 9
theorem kdO_r (v : Int) : kdO v = -9 ∨ (0 ≤ kdO v ∧ kdO v ≤ 5) := by unfold kdO; (repeat' split) <;> omega
theorem mnP_o {t : Int → Int} {n p : Int} (h : mnP t n p = p + 4) : mnO t n p := by
  have hk := kdO_r (t p)
  unfold mnP at h
  split at h
  · omega
  · split at h
    · omega
    · split at h
      · omega
      · split at h
        · omega
        · rename_i a b c d
          exact ⟨by omega, Decidable.not_not.mp b, Decidable.not_not.mp c, Decidable.not_not.mp d⟩
theorem rdN_ok {t : Int → Int} {n : Int} : ∀ (k : Nat) (i : Int), rdN t n k i = -9 → (i ≤ rcN t n k i ∧ rcN t n k i ≤ i + k ∧ (0 < i ∨ i < rcN t n k i)) ∧ ∀ q : Int, i ≤ q → q < rcN t n k i → mnO t n (qP t n q)
  | 0, i, h => by
    have hq := qP_0 t n i
    have h' : (if n ≤ qP t n i then (if 0 < i then -9 else qP t n i) else qP t n i) = -9 := h
    have e : rcN t n 0 i = i := rfl
    rw [e]
    refine ⟨⟨by omega, by omega, ?_⟩, fun q h0 h1 => by omega⟩
    split at h'
    · split at h' <;> omega
    · omega
  | k + 1, i, h => by
    have hq := qP_0 t n i
    by_cases h1 : n ≤ qP t n i
    · rw [rdN_end h1] at h
      rw [rcN_end h1]
      refine ⟨⟨by omega, by omega, ?_⟩, fun q h0 h1 => by omega⟩
      split at h <;> omega
    · by_cases h2 : mnP t n (qP t n i) = qP t n i + 4
      · rw [rdN_go h1 h2] at h
        rw [rcN_go h1 h2]
        have ih := rdN_ok k (i + 1) h
        refine ⟨⟨by omega, by omega, by omega⟩, fun q h3 h4 => ?_⟩
        rcases (show q = i ∨ i + 1 ≤ q by omega) with e | e
        · rw [e]; exact mnP_o h2
        · exact ih.2 q e h4
      · rw [rdN_no h1 h2] at h
        have := (mnP_r t n (qP t n i)).1
        omega
theorem irP_o {t : Int → Int} {n p : Int} (h : irP t n p = p + 5) : fgP t n (p + 1) 1 3 ∧ fgP t n (p + 2) 0 9 ∧ fgP t n (p + 3) 0 9 ∧ fgP t n (p + 4) 1 6 := by
  unfold irP at h
  split at h
  · omega
  · split at h
    · omega
    · split at h
      · omega
      · split at h
        · omega
        · split at h
          · omega
          · rename_i a b c d e
            exact ⟨Decidable.not_not.mp b, Decidable.not_not.mp c, Decidable.not_not.mp d, Decidable.not_not.mp e⟩
theorem rd_ok {t : Int → Int} {n : Int} (h : rdF t n = -9) : (1 ≤ rcF t n ∧ rcF t n ≤ 6) ∧ ((1 ≤ rN t n 0 ∧ rN t n 0 ≤ 3) ∧ (0 ≤ rN t n 1 ∧ rN t n 1 ≤ 9) ∧ (0 ≤ rN t n 2 ∧ rN t n 2 ≤ 9) ∧ (1 ≤ rN t n 3 ∧ rN t n 3 ≤ 6)) ∧ ∀ i : Int, 0 ≤ i → i < rcF t n → (0 ≤ rN t n (4 + 4 * i) ∧ rN t n (4 + 4 * i) ≤ 5) ∧ (0 ≤ rN t n (4 + 4 * i + 1) ∧ rN t n (4 + 4 * i + 1) ≤ 1) ∧ (0 ≤ rN t n (4 + 4 * i + 2) ∧ rN t n (4 + 4 * i + 2) ≤ 9) ∧ (0 ≤ rN t n (4 + 4 * i + 3) ∧ rN t n (4 + 4 * i + 3) ≤ 9) := by
  have hs := (sk_r t n 0).1
  unfold rdF at h
  split at h
  · rename_i h1
    have a := irP_o h1
    have b := rdN_ok 6 0 h
    have b' : (0 ≤ rcF t n ∧ rcF t n ≤ 0 + ((6 : Nat) : Int) ∧ (0 < (0 : Int) ∨ 0 < rcF t n)) ∧ ∀ q : Int, 0 ≤ q → q < rcF t n → mnO t n (qP t n q) := b
    refine ⟨by omega, ?_, fun i h0 h1 => ?_⟩
    · unfold rN
      rw [if_pos (by decide), if_pos (by decide), if_pos (by decide), if_pos (by decide), Int.add_zero, show sk t n 0 + 1 + 1 = sk t n 0 + 2 by omega, show sk t n 0 + 1 + 2 = sk t n 0 + 3 by omega, show sk t n 0 + 1 + 3 = sk t n 0 + 4 by omega]
      exact ⟨a.1.2, a.2.1.2, a.2.2.1.2, a.2.2.2.2⟩
    · have c := b'.2 i h0 h1
      rw [rN_0 t n h0, rN_k t n h0 (by decide), rN_k t n h0 (by decide), rN_k t n h0 (by decide)]
      exact ⟨c.1, c.2.1.2, c.2.2.1.2, c.2.2.2.2⟩
  · have := (irP_r t n (sk t n 0)).1
    omega
/-- the court that a text tells, R the text's row -/
def asHR (x : gX) (R : Int) : gX := xU (xU (xU (xU (xU x 11 0 0 (rN (x 20 R) (x 17 R 0) 0)) 12 0 0 (rN (x 20 R) (x 17 R 0) 1)) 13 0 0 (rN (x 20 R) (x 17 R 0) 2)) 14 0 0 (rN (x 20 R) (x 17 R 0) 3)) 10 0 0 (rcF (x 20 R) (x 17 R 0))
def asN (x : gX) (R : Int) : gX := fun k i j => if (1 ≤ k ∧ k ≤ 4) ∧ 0 ≤ i ∧ i < rcF (x 20 R) (x 17 R 0) ∧ j = 0 then rN (x 20 R) (x 17 R 0) (4 + 4 * i + (k - 1)) else asHR x R k i j
def asR (x : gX) (R : Int) : gX := xU (asN x R) 16 0 0 0
theorem as_eq {x u : gX} {R : Int} (hD : RD x R u) (h : rdF (x 20 R) (x 17 R 0) = -9) (k i j : Int) (hk : ¬ scr k i) : asF u k i j = asR x R k i j := by
  obtain ⟨e36, hr, hn⟩ := hD.2 h
  have e0 : ∀ q : Int, 0 ≤ q → q < 4 → u 23 0 q = rN (x 20 R) (x 17 R 0) q := fun q h0 h1 => hn q h0 (by omega)
  unfold asF asR
  show (if k = 16 ∧ i = 0 ∧ j = 0 then 0 else asM u (u 36 0 0) k i j) = (if k = 16 ∧ i = 0 ∧ j = 0 then 0 else asN x R k i j)
  refine ite_congr rfl (fun _ => rfl) (fun _ => ?_)
  unfold asM asN
  rw [e36]
  by_cases h1 : (1 ≤ k ∧ k ≤ 4) ∧ 0 ≤ i ∧ i < rcF (x 20 R) (x 17 R 0) ∧ j = 0
  · rw [if_pos h1, if_pos h1, hn _ (by omega) (by omega)]
  · rw [if_neg h1, if_neg h1]
    unfold asH asHR
    rw [e36, e0 0 (by decide) (by decide), e0 1 (by decide) (by decide), e0 2 (by decide) (by decide), e0 3 (by decide) (by decide)]
    unfold xU
    rw [hD.1 k (by omega) (by omega) (by omega) (by omega)]
theorem asR_NO0 {x : gX} {R : Int} (h : rdF (x 20 R) (x 17 R 0) = -9) : NO0 (asR x R) := by
  obtain ⟨h1, ⟨a1, a2, a3, a4⟩, h3⟩ := rd_ok h
  have eN : ∀ k i : Int, 1 ≤ k → k ≤ 4 → 0 ≤ i → i < rcF (x 20 R) (x 17 R 0) → asR x R k i 0 = rN (x 20 R) (x 17 R 0) (4 + 4 * i + (k - 1)) := fun k i k1 k4 i0 i1 => by
    unfold asR
    rw [xU_k (by omega)]
    unfold asN
    rw [if_pos ⟨⟨k1, k4⟩, i0, i1, rfl⟩]
  refine ⟨⟨(by show 0 ≤ rN (x 20 R) (x 17 R 0) 0 ∧ rN (x 20 R) (x 17 R 0) 0 ≤ 3; omega), a2, a3, (by show 0 ≤ rN (x 20 R) (x 17 R 0) 3 ∧ rN (x 20 R) (x 17 R 0) 3 ≤ 6; omega)⟩, (by show 0 ≤ rcF (x 20 R) (x 17 R 0) ∧ rcF (x 20 R) (x 17 R 0) ≤ 6; omega), fun i i0 i1 => ?_⟩
  have i1' : i < rcF (x 20 R) (x 17 R 0) := i1
  have := h3 i i0 i1'
  rw [eN 1 i (by decide) (by decide) i0 i1', eN 2 i (by decide) (by decide) i0 i1', eN 3 i (by decide) (by decide) i0 i1', eN 4 i (by decide) (by decide) i0 i1', show (1 : Int) - 1 = 0 from rfl, show (2 : Int) - 1 = 1 from rfl, show (3 : Int) - 1 = 2 from rfl, show (4 : Int) - 1 = 3 from rfl, Int.add_zero]
  exact this
theorem NO0_c {x u : gX} (e : ∀ k i : Int, ¬ scr k i → u k i 0 = x k i 0) (h : NO0 x) : NO0 u := by
  have q : ∀ k : Int, 10 ≤ k → k ≤ 14 → u k 0 0 = x k 0 0 := fun k h0 h1 => e k 0 (by unfold scr; omega)
  unfold NO0 IOK
  rw [q 10 (by decide) (by decide), q 11 (by decide) (by decide), q 12 (by decide) (by decide), q 13 (by decide) (by decide), q 14 (by decide) (by decide)]
  refine ⟨h.1, h.2.1, fun i h0 h1 => ?_⟩
  have h10 := h.2.1
  rw [e 1 i (by unfold scr; omega), e 2 i (by unfold scr; omega), e 3 i (by unfold scr; omega), e 4 i (by unfold scr; omega)]
  exact h.2.2 i h0 h1
def ktM (x : gX) (m : Int) : gX := fun k i j => if k = 16 ∧ 1 ≤ i ∧ i < 1 + m ∧ j = 0 then -1 else x k i j
theorem ktM_0 (x : gX) : ktM x 0 = x := by funext k i j; unfold ktM; rw [if_neg (by omega)]
theorem ktM_s (x : gX) {m : Int} (hm : 0 ≤ m) : xU (ktM x m) 16 (1 + m) 0 (-1) = ktM x (m + 1) := by
  funext k i j
  unfold xU ktM
  by_cases h1 : k = 16 ∧ i = 1 + m ∧ j = 0
  · rw [if_pos h1, if_pos ⟨h1.1, by omega, by omega, h1.2.2⟩]
  · rw [if_neg h1]
    by_cases h2 : k = 16 ∧ 1 ≤ i ∧ i < 1 + m ∧ j = 0
    · rw [if_pos h2, if_pos ⟨h2.1, h2.2.1, by omega, h2.2.2.2⟩]
    · rw [if_neg h2, if_neg (by omega)]
def couM (x : gX) (R : Int) : gX := ktM (repM (asR x R) 0 0) 3
theorem xG_cou {x u : gX} {R : Int} (hD : RD x R u) (h : rdF (x 20 R) (x 17 R 0) = -9) : xG (couM x R) (ktM (repM (asF u) 0 0) 3) := by
  have key : ∀ k i j : Int, ¬ scr k i → ktM (repM (asF u) 0 0) 3 k i j = couM x R k i j := by
    intro k i j hk
    have e := as_eq hD h k i j hk
    have e10 : asF u 10 0 0 = asR x R 10 0 0 := as_eq hD h 10 0 0 (by unfold scr; omega)
    unfold couM ktM
    refine ite_congr rfl (fun _ => rfl) (fun _ => ?_)
    show rsM (xU (asF u) 15 0 0 8) (asF u 10 0 0) k i j = rsM (xU (asR x R) 15 0 0 8) (asR x R 10 0 0) k i j
    rw [e10]
    unfold rsM
    refine ite_congr rfl (fun _ => rfl) (fun _ => ?_)
    unfold xU
    rw [e]
  refine ⟨key, fun hd => ?_⟩
  have q : ∀ k : Int, 38 ≤ k → k ≤ 39 → ktM (repM (asF u) 0 0) 3 k 0 0 = couM x R k 0 0 := fun k h0 h1 => by
    unfold couM ktM
    rw [if_neg (by omega), if_neg (by omega)]
    show rsM (xU (asF u) 15 0 0 8) (asF u 10 0 0) k 0 0 = rsM (xU (asR x R) 15 0 0 8) (asR x R 10 0 0) k 0 0
    rw [rsM_k (by omega) (by omega) (by omega), rsM_k (by omega) (by omega) (by omega), xU_k (by omega), xU_k (by omega)]
    unfold asF asR
    rw [xU_k (by omega), xU_k (by omega), asM_k (by omega), asH_k (by omega) (by omega) (by omega) (by omega) (by omega), hD.1 k (by omega) (by omega) (by omega) (by omega)]
    unfold asN asHR
    rw [if_neg (by omega), xU_k (by omega), xU_k (by omega), xU_k (by omega), xU_k (by omega), xU_k (by omega)]
  unfold dOK at hd ⊢
  rw [q 38 (by decide) (by decide), q 39 (by decide) (by decide)]
  exact hd
theorem xG_rd {x u : gX} {R : Int} (hD : RD x R u) : xG x u := ⟨fun k i j hk => by rw [hD.1 k (by omega) (by omega) (by omega) (by omega)], fun hd => by unfold dOK; rw [hD.1 38 (by decide) (by decide) (by decide) (by decide), hD.1 39 (by decide) (by decide) (by decide) (by decide)]; exact hd⟩
def sFault (x : gX) (t : Int) : Int × gX := if (mRf x 4 (6 + t) t).1 ≠ 0 then mRf x 4 (6 + t) t else (rdF (x 20 (6 + t)) (x 17 (6 + t) 0), x)
def sCourt (x : gX) (t : Int) : Int × gX := if (mRf x 4 (6 + t) t).1 ≠ 0 then mRf x 4 (6 + t) t else if rdF (x 20 (6 + t)) (x 17 (6 + t) 0) ≠ -9 then (-4, x) else (rcF (x 20 (6 + t)) (x 17 (6 + t) 0), couM x (6 + t))
abbrev mnN (x : gX) (i : Int) : Prop := 0 ≤ i ∧ i < x 10 0 0
def sMan (x : gX) (i w : Int) : Int × gX := if ¬ mnN x i ∨ w < 0 ∨ 9 ≤ w then (-1, x) else (1, xU x 19 0 0 (dU x i w))
def mkU (x : gX) (i k : Int) : Int := if k = 1 then sprU x i else if k = 2 then x 4 i 0 - sHard (x 1 i 0) (x 4 i 0) else if k = 3 then max 0 (x 15 0 0 - 10) else if k = 4 then abU x else sFelt (x 12 0 0) 0 (x 3 i 0) (x 15 0 0) - sFelt (x 12 0 0) (x 1 i 0) (x 3 i 0) (x 15 0 0)
def sMark (x : gX) (i k : Int) : Int × gX := if ¬ mnN x i ∨ k < 1 ∨ 6 ≤ k then (-1, x) else if ¬ sOf (x 1 i 0) k then (-3, fnd x 3) else (mkU x i k, x)
def sHeat (x : gX) (v : Int) : Int × gX := if v = 0 ∨ v < -5 ∨ 5 < v then (-1, x) else if x 10 0 0 = 0 then (-4, x) else if ¬ x 16 0 0 ≤ 40 - 1 then (-2, x) else (perM x 0 v 15 0 0, perM x 0 v)
def sSalve (x : gX) (i : Int) : Int × gX := if ¬ mnN x i then (-1, x) else if 3 ≤ x 5 i 0 ∨ x 6 i 0 ≠ -9 then (-4, x) else if ¬ x 16 0 0 ≤ 40 - 1 then (-2, x) else (perM x 1 i 5 i 0, perM x 1 i)
def sTrial (x : gX) (i : Int) : Int × gX := if ¬ mnN x i then (-1, x) else if x 6 i 0 ≠ -9 then (-4, x) else if ¬ x 16 0 0 ≤ 40 - 1 then (-2, x) else (perM x 2 i 6 i 0, xU (perM x 2 i) 19 0 0 (if perM x 2 i 7 i 0 = 0 then 0 else 1))
def sUndo (x : gX) (n : Int) : Int × gX := if n < 0 ∨ x 16 0 0 < n then (-1, x) else (x 16 0 0 - n, repM (xU x 16 0 0 n) 0 n)
def sKeep (x : gX) (k : Int) : Int × gX := if ¬ (0 ≤ k ∧ k < 3) then (-1, x) else if x 10 0 0 = 0 then (-4, x) else (x 16 0 0, xU (bcM x (1 + k) 0 (x 16 0 0)) 16 (1 + k) 0 (x 16 0 0))
abbrev onM (x : gX) (k : Int) : gX := xU (bcM x 0 (1 + k) (x 16 (1 + k) 0)) 16 0 0 (x 16 (1 + k) 0)
def sOn (x : gX) (k : Int) : Int × gX := if ¬ (0 ≤ k ∧ k < 3) then (-1, x) else if x 16 (1 + k) 0 = -1 then (-3, fnd x 1) else (x 16 (1 + k) 0, repM (onM x k) 0 (x 16 (1 + k) 0))
theorem bcM_k (x : gX) (d e m : Int) {k : Int} (h1 : k ≠ 21) (h2 : k ≠ 22) : bcM x d e m k = x k := by funext i j; unfold bcM; rw [if_neg (fun q => h1 q.1), if_neg (fun q => h2 q.1)]
theorem bcM_21 (x : gX) {d e m j : Int} (h0 : 0 ≤ j) (h1 : j < m) : bcM x d e m 21 d j = x 21 e j ∧ bcM x d e m 22 d j = x 22 e j := by
  unfold bcM
  exact ⟨by rw [if_pos ⟨rfl, rfl, h0, h1⟩], by rw [if_neg (by omega), if_pos ⟨rfl, rfl, h0, h1⟩]⟩
theorem onM_DOK {x : gX} {k : Int} (h : DOK x (1 + k) (x 16 (1 + k) 0)) : DOK (onM x k) 0 (x 16 (1 + k) 0) := fun j h0 h1 => by
  have a := h j h0 h1
  have b := bcM_21 (x := x) (d := 0) (e := 1 + k) h0 h1
  show wOK (onM x k) (bcM x 0 (1 + k) (x 16 (1 + k) 0) 21 0 j) (bcM x 0 (1 + k) (x 16 (1 + k) 0) 22 0 j)
  rw [b.1, b.2]
  exact a
theorem onM_NO0 {x : gX} {k : Int} (h : NO0 x) : NO0 (onM x k) := h
theorem rdN_r {t : Int → Int} {n : Int} (hn : n ≤ 60) : ∀ (k : Nat) (i : Int), eP t n i ≤ n → 0 ≤ i → -9 ≤ rdN t n k i ∧ rdN t n k i ≤ 1000
  | 0, i, he, h0 => by
    have := qP_0 t n i
    have := (sk_r t n (eP t n i)).2 he
    have e : rdN t n 0 i = if n ≤ qP t n i then (if 0 < i then -9 else qP t n i) else qP t n i := rfl
    rw [e]
    unfold qP at *
    (repeat' split) <;> omega
  | k + 1, i, he, h0 => by
    have a := qP_0 t n i
    have b := (sk_r t n (eP t n i)).2 he
    have c := mnP_r t n (qP t n i)
    have c2 : mnP t n (qP t n i) ≤ qP t n i + 4 := by unfold mnP; (repeat' split) <;> omega
    have d := eP_s t n h0
    have b' : qP t n i ≤ n := b
    by_cases h1 : n ≤ qP t n i
    · rw [rdN_end h1]; split <;> omega
    · by_cases h2 : mnP t n (qP t n i) = qP t n i + 4
      · rw [rdN_go h1 h2]
        exact rdN_r hn k (i + 1) (by omega) (by omega)
      · rw [rdN_no h1 h2]; omega
theorem rdF_r {t : Int → Int} {n : Int} (hn : 0 ≤ n ∧ n ≤ 60) : -9 ≤ rdF t n ∧ rdF t n ≤ 1000 := by
  have a := sk_r t n 0
  have b := irP_r t n (sk t n 0)
  have b2 : irP t n (sk t n 0) ≤ sk t n 0 + 5 := by unfold irP; (repeat' split) <;> omega
  unfold rdF
  split
  · rename_i h
    exact rdN_r hn.2 6 0 (by show sk t n 0 + 5 ≤ n; omega) (by decide)
  · omega
set_option maxRecDepth 20000 in
theorem c_X7_isMan (l : Launch) (D : gD) (ad : gA) (x : gX) (y : gY) (i : Int) (hi : i32 i) (hN : NOK x) : gC l D ad 0 yX7_isMan cX7_isMan 2 (some .boolean) [.ref (ad 7 (0)), .int (J (i))] x y (pB (mnN x i) (x) (y)) := by
  refine g_met RX7 rfl (by decide +kernel) [(0, .ref (ad 7 (0))), (1, .int (J (i)))] rfl (Nat.le_of_ble_eq_true rfl) (fun Θ F hR => ?_)
  refine g_iload_n F dX7_isMan_0 rfl 1 rfl ?_
  refine g_if_lt 19 F dX7_isMan_1 (by omega) rfl (fun c_1 => ?_) (fun c_1 => ?_)
  · skip
    refine g_iconst F dX7_isMan_19 (0) (by decide) ?_
    exact g_zreturn F hR dX7_isMan_20 (by omega) (pB_i (by split <;> omega) rfl rfl)
  · skip
    refine g_iload_n F dX7_isMan_4 rfl 1 rfl ?_
    refine g_aload_n F dX7_isMan_5 rfl 0 rfl ?_
    refine gg_Day_court F fk_X7_28 dX7_isMan_6 ?_
    refine ggN_Court_size F fk_X7_121 dX7_isMan_9 ?_
    refine g_icmp_ge 19 F dX7_isMan_12 (by omega) (by omega) rfl (fun c_2 => ?_) (fun c_2 => ?_)
    · skip
      refine g_iconst F dX7_isMan_19 (0) (by decide) ?_
      exact g_zreturn F hR dX7_isMan_20 (by omega) (pB_i (by split <;> omega) rfl rfl)
    · skip
      refine g_iconst F dX7_isMan_15 (1) (by decide) ?_
      refine g_goto F 20 dX7_isMan_16 rfl ?_
      exact g_zreturn F hR dX7_isMan_20 (by omega) (pB_i (by split <;> omega) rfl rfl)

set_option maxRecDepth 20000 in
theorem c_X7_isKeptPlace (l : Launch) (D : gD) (ad : gA) (x : gX) (y : gY) (k : Int) (hk : i32 k) : gC l D ad 0 yX7_isKeptPlace cX7_isKeptPlace 1 (some .boolean) [.int (J (k))] x y (pB (0 ≤ k ∧ k < 3) (x) (y)) := by
  refine g_met RX7 rfl (by decide +kernel) [(0, .int (J (k)))] rfl (Nat.le_of_ble_eq_true rfl) (fun Θ F hR => ?_)
  refine g_iload_n F dX7_isKeptPlace_0 rfl 0 rfl ?_
  refine g_if_lt 13 F dX7_isKeptPlace_1 (by omega) rfl (fun c_1 => ?_) (fun c_1 => ?_)
  · skip
    refine g_iconst F dX7_isKeptPlace_13 (0) (by decide) ?_
    exact g_zreturn F hR dX7_isKeptPlace_14 (by omega) (pB_i (by split <;> omega) rfl rfl)
  · skip
    refine g_iload_n F dX7_isKeptPlace_4 rfl 0 rfl ?_
    refine g_iconst F dX7_isKeptPlace_5 (3) (by decide) ?_
    refine g_icmp_ge 13 F dX7_isKeptPlace_6 (by omega) (by decide) rfl (fun c_2 => ?_) (fun c_2 => ?_)
    · skip
      refine g_iconst F dX7_isKeptPlace_13 (0) (by decide) ?_
      exact g_zreturn F hR dX7_isKeptPlace_14 (by omega) (pB_i (by split <;> omega) rfl rfl)
    · skip
      refine g_iconst F dX7_isKeptPlace_9 (1) (by decide) ?_
      refine g_goto F 14 dX7_isKeptPlace_10 rfl ?_
      exact g_zreturn F hR dX7_isKeptPlace_14 (by omega) (pB_i (by split <;> omega) rfl rfl)

set_option maxRecDepth 20000 in
theorem c_X7_fault (l : Launch) (D : gD) (ad : gA) (x : gX) (y : gY) (r : Int) (hr : i32 r) (hV : INV x) : gC l D ad 4 yX7_fault cX7_fault 3 (some .int) [.ref (ad 7 (0)), .int (J (r))] x y (pG (.int (J ((sFault x r).1))) (fun u => xG (sFault x r).2 u) (y)) := by
  refine g_met RX7 rfl (by decide +kernel) [(0, .ref (ad 7 (0))), (1, .int (J (r)))] rfl (Nat.le_of_ble_eq_true rfl) (fun Θ F hR => ?_)
  obtain ⟨hN, hRW, hDD, hCU, hMS⟩ := hV
  refine g_aload_n F dX7_fault_0 rfl 0 rfl ?_
  refine g_aload_n F dX7_fault_1 rfl 0 rfl ?_
  refine gg_Day_texts F fk_X7_15 dX7_fault_2 ?_
  refine g_iload_n F dX7_fault_5 rfl 1 rfl ?_
  refine g_callV 2 F (As := [.ref (ad 31 (0)), .int (J (r))]) (st := []) (c_X7_missingRefusal_T l D ad x y (r) (by omega) (hRW)) (gR_7) rfl mk_X7_79 ki_X7_missingRefusal kc_X7_missingRefusal (by decide +kernel) rfl (by decide) dX7_fault_6 rfl (Nat.le_of_ble_eq_true rfl) (pI_k ?_)
  have hi0 := mRf_i x 4 (6 + r) r
  refine g_istore_n F [(2, .int (J ((mRf x 4 (6 + (r)) (r)).1))), (0, .ref (ad 7 (0))), (1, .int (J (r)))] dX7_fault_9 rfl (by decide) rfl ?_
  refine g_iload_n F dX7_fault_10 rfl 0 rfl ?_
  refine g_if_eq 16 F dX7_fault_11 (by omega) rfl (fun c_1 => ?_) (fun c_1 => ?_)
  · skip
    have hq := mRf_0 c_1
    have hw := hRW (6 + r) (by omega) (by omega)
    have hw2 : -1 ≤ x 17 (6 + r) 0 ∧ x 17 (6 + r) 0 ≤ 60 := by have := hw.1; split at this <;> omega
    refine g_mx (X := x) (hq.2.2) ?_
    refine g_aload_n F dX7_fault_16 rfl 1 rfl ?_
    refine gg_Day_reader F fk_X7_21 dX7_fault_17 ?_
    refine g_aload_n F dX7_fault_20 rfl 1 rfl ?_
    refine gg_Day_texts F fk_X7_15 dX7_fault_21 ?_
    refine g_iload_n F dX7_fault_24 rfl 2 rfl ?_
    refine ga_31 F (by omega) dX7_fault_25 ?_
    refine g_callV 1 F (As := [.ref (ad 6 (6 + r))]) (st := []) (c_X5_read l D ad x y (6 + r) (by omega) (by have := hw.1; omega) (hw.2.2 (by omega))) (gR_5) rfl mk_X7_112 ki_X5_read kc_X5_read (by decide +kernel) rfl (by decide) dX7_fault_26 rfl (Nat.le_of_ble_eq_true rfl) (pG_k (fun u_26 hG_26 => ?_))
    exact g_ireturn F hR dX7_fault_29 (pG_z (by unfold sFault; (repeat' split) <;> first | rfl | (exfalso; omega)) (by unfold sFault; (repeat' split) <;> first | exact xG_rf _ | exact xG_rd hG_26 | (exfalso; omega)) rfl)
  · skip
    refine g_iload_n F dX7_fault_14 rfl 0 rfl ?_
    exact g_ireturn F hR dX7_fault_15 (pG_z (by unfold sFault; (repeat' split) <;> first | rfl | (exfalso; omega)) (by unfold sFault; (repeat' split) <;> first | exact xG_rf _ | exact xG_rd hG_26 | (exfalso; omega)) rfl)

set_option maxRecDepth 20000 in
theorem c_X7_court (l : Launch) (D : gD) (ad : gA) (x : gX) (y : gY) (r : Int) (hr : i32 r) (hV : INV x) : gC l D ad 7 yX7_court cX7_court 4 (some .int) [.ref (ad 7 (0)), .int (J (r))] x y (pG (.int (J ((sCourt x r).1))) (fun u => xG (sCourt x r).2 u) (y)) := by
  refine g_met RX7 rfl (by decide +kernel) [(0, .ref (ad 7 (0))), (1, .int (J (r)))] rfl (Nat.le_of_ble_eq_true rfl) (fun Θ F hR => ?_)
  obtain ⟨hN, hRW, hDD, hCU, hMS⟩ := hV
  refine g_aload_n F dX7_court_0 rfl 0 rfl ?_
  refine g_aload_n F dX7_court_1 rfl 0 rfl ?_
  refine gg_Day_texts F fk_X7_15 dX7_court_2 ?_
  refine g_iload_n F dX7_court_5 rfl 1 rfl ?_
  refine g_callV 2 F (As := [.ref (ad 31 (0)), .int (J (r))]) (st := []) (c_X7_missingRefusal_T l D ad x y (r) (by omega) (hRW)) (gR_7) rfl mk_X7_79 ki_X7_missingRefusal kc_X7_missingRefusal (by decide +kernel) rfl (by decide) dX7_court_6 rfl (Nat.le_of_ble_eq_true rfl) (pI_k ?_)
  have hi0 := mRf_i x 4 (6 + r) r
  refine g_istore_n F [(2, .int (J ((mRf x 4 (6 + (r)) (r)).1))), (0, .ref (ad 7 (0))), (1, .int (J (r)))] dX7_court_9 rfl (by decide) rfl ?_
  refine g_iload_n F dX7_court_10 rfl 0 rfl ?_
  refine g_if_eq 16 F dX7_court_11 (by omega) rfl (fun c_1 => ?_) (fun c_1 => ?_)
  · skip
    have hq := mRf_0 c_1
    have hw := hRW (6 + r) (by omega) (by omega)
    have hw2 : -1 ≤ x 17 (6 + r) 0 ∧ x 17 (6 + r) 0 ≤ 60 := by have := hw.1; split at this <;> omega
    refine g_mx (X := x) (hq.2.2) ?_
    refine g_aload_n F dX7_court_16 rfl 1 rfl ?_
    refine gg_Day_reader F fk_X7_21 dX7_court_17 ?_
    refine g_aload_n F dX7_court_20 rfl 1 rfl ?_
    refine gg_Day_texts F fk_X7_15 dX7_court_21 ?_
    refine g_iload_n F dX7_court_24 rfl 2 rfl ?_
    refine ga_31 F (by omega) dX7_court_25 ?_
    refine g_callV 1 F (As := [.ref (ad 6 (6 + r))]) (st := []) (c_X5_read l D ad x y (6 + r) (by omega) (by have := hw.1; omega) (hw.2.2 (by omega))) (gR_5) rfl mk_X7_112 ki_X5_read kc_X5_read (by decide +kernel) rfl (by decide) dX7_court_26 rfl (Nat.le_of_ble_eq_true rfl) (pG_k (fun u_26 hG_26 => ?_))
    have hrd : -9 ≤ rdF (x 20 (6 + r)) (x 17 (6 + r) 0) ∧ rdF (x 20 (6 + r)) (x 17 (6 + r) 0) ≤ 1000 := rdF_r (by omega)
    refine g_bipush F dX7_court_29 (-9) (by decide) ?_
    refine g_icmp_eq 37 F dX7_court_31 (by omega) (by decide) rfl (fun c_2 => ?_) (fun c_2 => ?_)
    · skip
      refine g_aload_n F dX7_court_37 rfl 1 rfl ?_
      refine gg_Day_court F fk_X7_28 dX7_court_38 ?_
      refine g_aload_n F dX7_court_41 rfl 1 rfl ?_
      refine gg_Day_reader F fk_X7_21 dX7_court_42 ?_
      refine g_callV 1 F (As := [.ref (ad 5 (0))]) (st := []) (c_X0_assemble l D ad u_26 y  (by have := hG_26.2 (by omega); omega) (NO0_c (fun k i hk => as_eq hG_26 (by omega) k i 0 hk) (asR_NO0 (by omega)))) (gR_0) rfl mk_X7_116 ki_X0_assemble kc_X0_assemble (by decide +kernel) rfl (by decide) dX7_court_45 rfl (Nat.le_of_ble_eq_true rfl) (pV_k ?_)
      refine g_iconst F dX7_court_48 (0) (by decide) ?_
      refine g_istore_n F [(3, .int (J (0))), (2, .int (J ((mRf x 4 (6 + (r)) (r)).1))), (0, .ref (ad 7 (0))), (1, .int (J (r)))] dX7_court_49 rfl (by decide) rfl ?_
      have L50 : ∀ (N : Nat) (j : Int), 0 ≤ j ∧ j ≤ 3 → (3 - j).toNat < N → gW Θ l D ad 4 50 [(0, .ref (ad 7 (0))), (3, .int (J (j)))] [] (ktM (repM (asF u_26) 0 0) j) y := by
        intro N
        induction N with
        | zero => intro j hj hFu; omega
        | succ N ih50 =>
          intro j hj hFu
          refine g_iload_n F dX7_court_50 rfl 1 rfl ?_
          refine g_iconst F dX7_court_51 (3) (by decide) ?_
          refine g_icmp_ge 71 F dX7_court_52 (by omega) (by decide) rfl (fun c_3 => ?_) (fun c_3 => ?_)
          · skip
            refine g_aload_n F dX7_court_71 rfl 0 rfl ?_
            refine gg_Day_court F fk_X7_28 dX7_court_72 ?_
            refine ggN_Court_size F fk_X7_121 dX7_court_75 ?_
            refine g_topi (b := rcF (x 20 (6 + r)) (x 17 (6 + r) 0)) ((hG_26.2 (by omega)).1) ?_
            exact g_ireturn F hR dX7_court_78 (pG_z (by unfold sCourt; (repeat' split) <;> first | rfl | (exfalso; omega)) (by unfold sCourt; (repeat' split) <;> first | exact xG_rf _ | exact xG_rd hG_26 | (rw [show j = 3 by omega]; exact xG_cou hG_26 (by omega)) | (exfalso; omega)) rfl)
          · skip
            refine g_aload_n F dX7_court_55 rfl 0 rfl ?_
            refine gg_Day_kept F fk_X7_34 dX7_court_56 ?_
            refine g_iload_n F dX7_court_59 rfl 1 rfl ?_
            refine ga_33 F (by omega) dX7_court_60 ?_
            refine g_iconst F dX7_court_61 (-1) (by decide) ?_
            refine gpN_Deeds_size F (by omega) fk_X7_120 dX7_court_62 ?_
            refine g_iinc F [(3, .int (J (j + 1))), (0, .ref (ad 7 (0)))] 1 rfl dX7_court_65 (by decide) rfl ?_
            refine g_goto F 50 dX7_court_68 rfl ?_
            refine g_sub [1, 0] (lv' := [(0, .ref (ad 7 (0))), (3, .int (J (j + 1)))]) rfl ?_
            exact gW_eq (ih50 (j + 1) (by omega) (by omega)) rfl rfl rfl (ktM_s _ (by omega)) (rfl)
      refine g_sub [2, 0] (lv' := [(0, .ref (ad 7 (0))), (3, .int (J (0)))]) rfl ?_
      exact gW_eq (L50 _ (0) (by omega) (Nat.lt_succ_self _)) rfl rfl rfl ((ktM_0 _).symm) (rfl)
    · skip
      refine g_bipush F dX7_court_34 (-4) (by decide) ?_
      exact g_ireturn F hR dX7_court_36 (pG_z (by unfold sCourt; (repeat' split) <;> first | rfl | (exfalso; omega)) (by unfold sCourt; (repeat' split) <;> first | exact xG_rf _ | exact xG_rd hG_26 | (rw [show j = 3 by omega]; exact xG_cou hG_26 (by omega)) | (exfalso; omega)) rfl)
  · skip
    refine g_iload_n F dX7_court_14 rfl 0 rfl ?_
    exact g_ireturn F hR dX7_court_15 (pG_z (by unfold sCourt; (repeat' split) <;> first | rfl | (exfalso; omega)) (by unfold sCourt; (repeat' split) <;> first | exact xG_rf _ | exact xG_rd hG_26 | (rw [show j = 3 by omega]; exact xG_cou hG_26 (by omega)) | (exfalso; omega)) rfl)
