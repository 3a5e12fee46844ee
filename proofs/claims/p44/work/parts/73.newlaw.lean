def gSet (Θ : gT) (k n : Nat) : gT :=
  match Θ with
  | (p, e, R, s, m, args, below, meth, c, Q, A, H0, _, _) => (p, e, R, s, m, args, below, meth, c, Q, A, H0, k, n)
theorem gAp_of {cI cR cM cD : ClassId} {ad : gA} {A : Nat → Prop} {x : gX} {y : gY} (h : va_D A (gV cI cR cM cD ad x y)) : gAp ad A := by
  refine ⟨fun q hq r hr e => ?_, fun q hq => ?_⟩
  · obtain ⟨i, hi⟩ := List.getElem?_of_mem hq
    obtain ⟨j, hj⟩ := List.getElem?_of_mem hr
    have := h.1 i j _ _ (gV_at (k := q.1) (i := q.2) hi) (gV_at (k := r.1) (i := r.2) hj) e
    subst this
    exact Option.some.inj (hi.symm.trans hj)
  · obtain ⟨i, hi⟩ := List.getElem?_of_mem hq
    exact h.2 i _ (gV_at (k := q.1) (i := q.2) hi)
/-- from the growing world to the memory -/
theorem n_g {Θ : gT} {l : Launch} {D : gD} {cc : ByteArray} {own : String} {nL d K N pc k n : Nat} {lv : List (Nat × Value)} {st : List Value} {ad : gA} {x : gX} {y : gY} (F : nF Θ l D cc own nL d K N) (hk : k ≤ K) (hn : n ≤ N) (kk : gF (gSet Θ k n) l D ad cc own nL d → gW (gSet Θ k n) l D ad nL pc lv st x y) : nW Θ l D nL pc lv st (gV D.2.1 D.2.2.1 D.2.2.2.1 D.2.2.2.2 ad x y) k n := by
  obtain ⟨p, e, R, s, m, args, below, meth, c, Q, A, H0, cells, slots⟩ := Θ
  obtain ⟨hx, hb, hml, ho, hts, hN, hK, hO, hA, hr1, hr2, hr3, hr4⟩ := F
  intro H locs ls hl hP hD hS
  exact kk ⟨hx, hb, hml, ho, hts, hN, hK, gAp_of hD, hr1, hr2, Nat.le_trans hk hr3, Nat.le_trans hn hr4⟩ H locs ls hl hP hS
def adG (g v n : Nat) (ad : gA) : gA := fun k i => if k = 41 then g else if k = 42 then v else if k = 43 then n else ad k i
