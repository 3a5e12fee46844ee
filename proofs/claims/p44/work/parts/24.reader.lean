/-! posts that say what holds of the memory behind -/
abbrev pG (val : Value) (P : gX → Prop) (Y : gY) : Option Value → gX → gY → Prop := fun v u w => v = some val ∧ P u ∧ w = Y
abbrev pN (P : gX → Prop) (Y : gY) : Option Value → gX → gY → Prop := fun v u w => v = none ∧ P u ∧ w = Y
abbrev pH (val : Value) (X : gX) (P : gY → Prop) : Option Value → gX → gY → Prop := fun v u w => v = some val ∧ u = X ∧ P w
abbrev pNH (X : gX) (P : gY → Prop) : Option Value → gX → gY → Prop := fun v u w => v = none ∧ u = X ∧ P w
theorem pG_z {a b : Int} {P : gX → Prop} {X : gX} {Y Y' : gY} (h : a = b) (hP : P X) (hY : Y = Y') : pG (.int (J b)) P Y' (some (.int (J a))) X Y := ⟨by rw [h], hP, hY⟩
theorem pG_l {a b : Int} {P : gX → Prop} {X : gX} {Y Y' : gY} (h : a = b) (hP : P X) (hY : Y = Y') : pG (.long (Lg b)) P Y' (some (.long (Lg a))) X Y := ⟨by rw [h], hP, hY⟩
theorem pN_i {P : gX → Prop} {X : gX} {Y Y' : gY} (hP : P X) (hY : Y = Y') : pN P Y' none X Y := ⟨rfl, hP, hY⟩
theorem pH_z {a b : Int} {P : gY → Prop} {X X' : gX} {Y : gY} (h : a = b) (hP : P Y) (hX : X = X') : pH (.int (J b)) X' P (some (.int (J a))) X Y := ⟨by rw [h], hX, hP⟩
theorem pH_l {a b : Int} {P : gY → Prop} {X X' : gX} {Y : gY} (h : a = b) (hP : P Y) (hX : X = X') : pH (.long (Lg b)) X' P (some (.long (Lg a))) X Y := ⟨by rw [h], hX, hP⟩
theorem pNH_i {P : gY → Prop} {X X' : gX} {Y : gY} (hP : P Y) (hX : X = X') : pNH X' P none X Y := ⟨rfl, hX, hP⟩
theorem pG_k {Θ : gT} {l : Launch} {D : gD} {ad : gA} {nL pc : Nat} {lv : List (Nat × Value)} {st : List Value} {val : Value} {P : gX → Prop} {Y : gY} (h : ∀ u, P u → gW Θ l D ad nL pc lv (val :: st) u Y) : ∀ (v : Option Value) (u : gX) (w : gY), pG val P Y v u w → gW Θ l D ad nL pc lv (v.toList ++ st) u w := by
  rintro v u w ⟨rfl, hP, rfl⟩; exact h u hP
theorem pN_k {Θ : gT} {l : Launch} {D : gD} {ad : gA} {nL pc : Nat} {lv : List (Nat × Value)} {st : List Value} {P : gX → Prop} {Y : gY} (h : ∀ u, P u → gW Θ l D ad nL pc lv st u Y) : ∀ (v : Option Value) (u : gX) (w : gY), pN P Y v u w → gW Θ l D ad nL pc lv (v.toList ++ st) u w := by
  rintro v u w ⟨rfl, hP, rfl⟩; exact h u hP
theorem pH_k {Θ : gT} {l : Launch} {D : gD} {ad : gA} {nL pc : Nat} {lv : List (Nat × Value)} {st : List Value} {val : Value} {P : gY → Prop} {X : gX} (h : ∀ w, P w → gW Θ l D ad nL pc lv (val :: st) X w) : ∀ (v : Option Value) (u : gX) (w : gY), pH val X P v u w → gW Θ l D ad nL pc lv (v.toList ++ st) u w := by
  rintro v u w ⟨rfl, rfl, hP⟩; exact h w hP
theorem pNH_k {Θ : gT} {l : Launch} {D : gD} {ad : gA} {nL pc : Nat} {lv : List (Nat × Value)} {st : List Value} {P : gY → Prop} {X : gX} (h : ∀ w, P w → gW Θ l D ad nL pc lv st X w) : ∀ (v : Option Value) (u : gX) (w : gY), pNH X P v u w → gW Θ l D ad nL pc lv (v.toList ++ st) u w := by
  rintro v u w ⟨rfl, rfl, hP⟩; exact h w hP
/-! a text read as a court: t its bytes, n its size -/
def skN (t : Int → Int) (n : Int) : Nat → Int → Int
  | 0, p => p
  | k + 1, p => if p < n ∧ t p = 32 then skN t n k (p + 1) else p
def sk (t : Int → Int) (n p : Int) : Int := skN t n (n - p).toNat p
theorem sk_go {t : Int → Int} {n p : Int} (h1 : p < n) (h2 : t p = 32) : sk t n p = sk t n (p + 1) := by
  unfold sk
  rw [show (n - p).toNat = (n - (p + 1)).toNat + 1 by omega]
  show (if p < n ∧ t p = 32 then _ else _) = _
  rw [if_pos ⟨h1, h2⟩]
theorem sk_stop {t : Int → Int} {n p : Int} (h : ¬ (p < n ∧ t p = 32)) : sk t n p = p := by
  unfold sk
  cases (n - p).toNat with
  | zero => rfl
  | succ k => show (if p < n ∧ t p = 32 then _ else _) = _; rw [if_neg h]
theorem skN_r (t : Int → Int) (n : Int) : ∀ (k : Nat) (p : Int), p ≤ skN t n k p ∧ (p ≤ n → skN t n k p ≤ n)
  | 0, p => ⟨Int.le_refl _, fun h => h⟩
  | k + 1, p => by
    have := skN_r t n k (p + 1)
    show p ≤ (if p < n ∧ t p = 32 then skN t n k (p + 1) else p) ∧ (p ≤ n → (if p < n ∧ t p = 32 then skN t n k (p + 1) else p) ≤ n)
    split <;> omega
theorem sk_r (t : Int → Int) (n p : Int) : p ≤ sk t n p ∧ (p ≤ n → sk t n p ≤ n) := skN_r t n _ p
abbrev fgP (t : Int → Int) (n p lo hi : Int) : Prop := p < n ∧ lo ≤ t p - 48 ∧ t p - 48 ≤ hi
def kdO (v : Int) : Int := if v = 109 then 0 else if v = 112 then 1 else if v = 99 then 2 else if v = 119 then 3 else if v = 120 then 4 else if v = 110 then 5 else -9
def irP (t : Int → Int) (n p : Int) : Int := if ¬ (p < n ∧ t p = 105) then p else if ¬ fgP t n (p + 1) 1 3 then p + 1 else if ¬ fgP t n (p + 2) 0 9 then p + 2 else if ¬ fgP t n (p + 3) 0 9 then p + 3 else if ¬ fgP t n (p + 4) 1 6 then p + 4 else p + 5
def mnP (t : Int → Int) (n p : Int) : Int := if kdO (t p) = -9 then p else if ¬ fgP t n (p + 1) 0 1 then p + 1 else if ¬ fgP t n (p + 2) 0 9 then p + 2 else if ¬ fgP t n (p + 3) 0 9 then p + 3 else p + 4
/-- where the blanks ahead of the i-th man begin, where he begins -/
def eN (t : Int → Int) (n : Int) : Nat → Int
  | 0 => sk t n 0 + 5
  | i + 1 => sk t n (eN t n i) + 4
def eP (t : Int → Int) (n i : Int) : Int := eN t n i.toNat
def qP (t : Int → Int) (n i : Int) : Int := sk t n (eP t n i)
theorem eP_s (t : Int → Int) (n : Int) {i : Int} (h : 0 ≤ i) : eP t n (i + 1) = qP t n i + 4 := by
  unfold qP eP
  rw [show (i + 1).toNat = i.toNat + 1 by omega]; rfl
/-- the numbers in their order -/
def rN (t : Int → Int) (n j : Int) : Int := if j < 4 then t (sk t n 0 + 1 + j) - 48 else if (j - 4) % 4 = 0 then kdO (t (qP t n ((j - 4) / 4))) else t (qP t n ((j - 4) / 4) + (j - 4) % 4) - 48
/-- what is told, how many men: from the i-th man on, k more being allowed -/
def rdN (t : Int → Int) (n : Int) : Nat → Int → Int
  | 0, i => if n ≤ qP t n i then (if 0 < i then -9 else qP t n i) else qP t n i
  | k + 1, i => if n ≤ qP t n i then (if 0 < i then -9 else qP t n i) else if mnP t n (qP t n i) = qP t n i + 4 then rdN t n k (i + 1) else mnP t n (qP t n i)
def rcN (t : Int → Int) (n : Int) : Nat → Int → Int
  | 0, i => i
  | k + 1, i => if n ≤ qP t n i then i else if mnP t n (qP t n i) = qP t n i + 4 then rcN t n k (i + 1) else i
def rdF (t : Int → Int) (n : Int) : Int := if irP t n (sk t n 0) = sk t n 0 + 5 then rdN t n 6 0 else irP t n (sk t n 0)
def rcF (t : Int → Int) (n : Int) : Int := rcN t n 6 0
/-- where the reader stands: c numbers taken, at place p, m men -/
def RS (x0 : gX) (r : Int) (u : gX) (c p m : Int) : Prop := (∀ k : Int, k ≠ 23 → k ≠ 35 → k ≠ 36 → k ≠ 37 → u k = x0 k) ∧ u 35 0 0 = c ∧ u 37 0 0 = p ∧ u 36 0 0 = m ∧ ∀ j : Int, 0 ≤ j → j < c → u 23 0 j = rN (x0 20 r) (x0 17 r 0) j
def RF (x0 : gX) (u : gX) (p : Int) : Prop := (∀ k : Int, k ≠ 23 → k ≠ 35 → k ≠ 36 → k ≠ 37 → u k = x0 k) ∧ u 37 0 0 = p
def tkM (x : gX) (v : Int) : gX := xU (xU (xU x 23 0 (x 35 0 0) v) 35 0 0 (x 35 0 0 + 1)) 37 0 0 (x 37 0 0 + 1)
theorem RS_RF {x0 : gX} {r : Int} {u : gX} {c p m a : Int} (h : RS x0 r u c p m) (e : p = a) : RF x0 u a := ⟨h.1, h.2.2.1.trans e⟩
theorem RS_eq {x0 : gX} {r : Int} {u : gX} {c p m c' p' m' : Int} (h : RS x0 r u c p m) (e1 : c = c') (e2 : p = p') (e3 : m = m') : RS x0 r u c' p' m' := by subst e1; subst e2; subst e3; exact h
theorem RS_skip {x0 : gX} {r : Int} {u : gX} {c p m q : Int} (h : RS x0 r u c p m) : RS x0 r (xU u 37 0 0 q) c q m :=
  ⟨fun k h1 h2 h3 h4 => by rw [xU_k h4]; exact h.1 k h1 h2 h3 h4, h.2.1, xU_same _ _ _ _ _, h.2.2.2.1, h.2.2.2.2⟩
theorem RS_men {x0 : gX} {r : Int} {u : gX} {c p m a : Int} (h : RS x0 r u c p m) (e : a = m + 1) : RS x0 r (xU u 36 0 0 a) c p (m + 1) :=
  ⟨fun k h1 h2 h3 h4 => by rw [xU_k h3]; exact h.1 k h1 h2 h3 h4, h.2.1, h.2.2.1, by rw [xU_same]; exact e, h.2.2.2.2⟩
theorem tkM_RS {x0 : gX} {r : Int} {u : gX} {c p m v : Int} (h : RS x0 r u c p m) (hc : 0 ≤ c) (hv : v = rN (x0 20 r) (x0 17 r 0) c) : RS x0 r (tkM u v) (c + 1) (p + 1) m := by
  obtain ⟨h1, h2, h3, h4, h5⟩ := h
  refine ⟨fun k q1 q2 q3 q4 => ?_, ?_, ?_, h4, fun j j0 j1 => ?_⟩
  · unfold tkM; rw [xU_k q4, xU_k q2, xU_k q1]; exact h1 k q1 q2 q3 q4
  · show u 35 0 0 + 1 = c + 1; rw [h2]
  · unfold tkM; rw [xU_same, h3]
  · show xU u 23 0 (u 35 0 0) v 23 0 j = _
    rw [xU_at, h2]
    split
    · rename_i q; rw [q.2]; exact hv
    · exact h5 j j0 (by omega)
theorem xU_self (x : gX) (k i j : Int) : xU x k i j (x k i j) = x := by
  funext a b c
  unfold xU
  split
  · rename_i q; rw [q.1, q.2.1, q.2.2]
  · rfl
set_option maxRecDepth 20000 in
theorem c_X5_kindOf (l : Launch) (D : gD) (ad : gA) (x : gX) (y : gY) (v : Int) (hv : i32 v) : gC l D ad 0 yX5_kindOf cX5_kindOf 1 (some .int) [.int (J (v))] x y (pI (kdO v) (x) (y)) := by
  refine g_met RX5 rfl (by decide +kernel) [(0, .int (J (v)))] rfl (Nat.le_of_ble_eq_true rfl) (fun Θ F hR => ?_)
  refine g_iload_n F dX5_kindOf_0 rfl 0 rfl ?_
  have rs_1 : i32 (v) := (by omega)
  rcases (show v = 99 ∨ v = 109 ∨ v = 110 ∨ v = 112 ∨ v = 119 ∨ v = 120 ∨ (v ≠ 99 ∧ v ≠ 109 ∧ v ≠ 110 ∧ v ≠ 112 ∧ v ≠ 119 ∧ v ≠ 120) by omega) with s_1 | s_1 | s_1 | s_1 | s_1 | s_1 | s_1
  · skip
    refine g_lookup F 64 dX5_kindOf_1 (by decide) rs_1 (by rw [s_1] <;> decide +kernel) rfl ?_
    refine g_iconst F dX5_kindOf_64 (2) (by decide) ?_
    exact g_ireturn F hR dX5_kindOf_65 (pI_i (by unfold kdO; (repeat' split) <;> omega) rfl rfl)
  · skip
    refine g_lookup F 60 dX5_kindOf_1 (by decide) rs_1 (by rw [s_1] <;> decide +kernel) rfl ?_
    refine g_iconst F dX5_kindOf_60 (0) (by decide) ?_
    exact g_ireturn F hR dX5_kindOf_61 (pI_i (by unfold kdO; (repeat' split) <;> omega) rfl rfl)
  · skip
    refine g_lookup F 70 dX5_kindOf_1 (by decide) rs_1 (by rw [s_1] <;> decide +kernel) rfl ?_
    refine g_iconst F dX5_kindOf_70 (5) (by decide) ?_
    exact g_ireturn F hR dX5_kindOf_71 (pI_i (by unfold kdO; (repeat' split) <;> omega) rfl rfl)
  · skip
    refine g_lookup F 62 dX5_kindOf_1 (by decide) rs_1 (by rw [s_1] <;> decide +kernel) rfl ?_
    refine g_iconst F dX5_kindOf_62 (1) (by decide) ?_
    exact g_ireturn F hR dX5_kindOf_63 (pI_i (by unfold kdO; (repeat' split) <;> omega) rfl rfl)
  · skip
    refine g_lookup F 66 dX5_kindOf_1 (by decide) rs_1 (by rw [s_1] <;> decide +kernel) rfl ?_
    refine g_iconst F dX5_kindOf_66 (3) (by decide) ?_
    exact g_ireturn F hR dX5_kindOf_67 (pI_i (by unfold kdO; (repeat' split) <;> omega) rfl rfl)
  · skip
    refine g_lookup F 68 dX5_kindOf_1 (by decide) rs_1 (by rw [s_1] <;> decide +kernel) rfl ?_
    refine g_iconst F dX5_kindOf_68 (4) (by decide) ?_
    exact g_ireturn F hR dX5_kindOf_69 (pI_i (by unfold kdO; (repeat' split) <;> omega) rfl rfl)
  · skip
    refine g_lookup F (off := 71) 72 dX5_kindOf_1 (by decide) rs_1 (by show (if (99 : Int) = v then (63 : Int) else if (109 : Int) = v then (59 : Int) else if (110 : Int) = v then (69 : Int) else if (112 : Int) = v then (61 : Int) else if (119 : Int) = v then (65 : Int) else if (120 : Int) = v then (67 : Int) else 71) = 71; (repeat' split) <;> omega) rfl ?_
    refine g_bipush F dX5_kindOf_72 (-9) (by decide) ?_
    exact g_ireturn F hR dX5_kindOf_74 (pI_i (by unfold kdO; (repeat' split) <;> omega) rfl rfl)

set_option maxRecDepth 20000 in
theorem c_X5_take (l : Launch) (D : gD) (ad : gA) (x : gX) (y : gY) (v : Int) (h5 : 0 ≤ x 35 0 0 ∧ x 35 0 0 < 28) : gC l D ad 0 yX5_take cX5_take 2 none [.ref (ad 5 (0)), .int (J (v))] x y (pV (tkM x v) (y)) := by
  refine g_met RX5 rfl (by decide +kernel) [(0, .ref (ad 5 (0))), (1, .int (J (v)))] rfl (Nat.le_of_ble_eq_true rfl) (fun Θ F hR => ?_)
  refine g_aload_n F dX5_take_0 rfl 0 rfl ?_
  refine gg_Reader_taken F fk_X5_15 dX5_take_1 ?_
  refine g_aload_n F dX5_take_4 rfl 0 rfl ?_
  refine gg_Reader_numbers F fk_X5_11 dX5_take_5 ?_
  refine gl_23 F dX5_take_8 ?_
  refine g_icmp_ge 32 F dX5_take_9 (by omega) (by decide) rfl (fun c_1 => ?_) (fun c_1 => ?_)
  · skip
    exfalso; omega
  · skip
    refine g_aload_n F dX5_take_12 rfl 0 rfl ?_
    refine gg_Reader_numbers F fk_X5_11 dX5_take_13 ?_
    refine g_aload_n F dX5_take_16 rfl 0 rfl ?_
    refine gg_Reader_taken F fk_X5_15 dX5_take_17 ?_
    refine g_iload_n F dX5_take_20 rfl 1 rfl ?_
    refine gs_23 F (by omega) dX5_take_21 ?_
    refine g_aload_n F dX5_take_22 rfl 0 rfl ?_
    refine g_dup F dX5_take_23 rfl ?_
    refine gg_Reader_taken F fk_X5_15 dX5_take_24 ?_
    refine g_topi (b := x 35 (0) (0)) (by simp [xU]) ?_
    refine g_iconst F dX5_take_27 (1) (by decide) ?_
    refine g_iadd F dX5_take_28 ?_
    refine gp_Reader_taken F fk_X5_15 dX5_take_29 ?_
    refine g_aload_n F dX5_take_32 rfl 0 rfl ?_
    refine g_dup F dX5_take_33 rfl ?_
    refine gg_Reader_place F fk_X5_22 dX5_take_34 ?_
    refine g_topi (b := x 37 (0) (0)) (by simp [xU]) ?_
    refine g_iconst F dX5_take_37 (1) (by decide) ?_
    refine g_iadd F dX5_take_38 ?_
    refine gp_Reader_place F fk_X5_22 dX5_take_39 ?_
    exact g_vreturn F hR dX5_take_42 (pV_i (by rfl) rfl)

set_option maxRecDepth 20000 in
theorem c_X5_passBlanks (l : Launch) (D : gD) (ad : gA) (x : gX) (y : gY) (r : Int) (hr : 0 ≤ r ∧ r < 10) (hn : (0 ≤ x 17 r 0 ∧ x 17 r 0 ≤ 60) ∧ x 17 r 0 ≤ (if r < 6 then 40 else 60)) (ht : ∀ j : Int, -128 ≤ x 20 r j ∧ x 20 r j ≤ 127) (hp : 0 ≤ x 37 0 0 ∧ x 37 0 0 ≤ 100) : gC l D ad 0 yX5_passBlanks cX5_passBlanks 2 none [.ref (ad 5 (0)), .ref (ad 6 (r))] x y (pV (xU x 37 0 0 (sk (x 20 r) (x 17 r 0) (x 37 0 0))) (y)) := by
  refine g_met RX5 rfl (by decide +kernel) [(0, .ref (ad 5 (0))), (1, .ref (ad 6 (r)))] rfl (Nat.le_of_ble_eq_true rfl) (fun Θ F hR => ?_)
  have L0 : ∀ (N : Nat) (q : Int), 0 ≤ q ∧ q ≤ 100 → sk (x 20 r) (x 17 r 0) (x 37 0 0) = sk (x 20 r) (x 17 r 0) q → (x 17 r 0 - q).toNat < N → gW Θ l D ad 2 0 [(0, .ref (ad 5 (0))), (1, .ref (ad 6 (r)))] [] (xU x 37 0 0 q) y := by
    intro N
    induction N with
    | zero => intro q hj ha hFu; omega
    | succ N ih0 =>
      intro q hj ha hFu
      refine g_aload_n F dX5_passBlanks_0 rfl 0 rfl ?_
      refine gg_Reader_place F fk_X5_22 dX5_passBlanks_1 ?_
      refine g_topi (b := q) (by rw [xU_same]) ?_
      refine g_aload_n F dX5_passBlanks_4 rfl 1 rfl ?_
      refine ggN_Row_size F (by omega) fk_X5_33 dX5_passBlanks_5 ?_
      refine g_topi (b := x 17 r 0) (rfl) ?_
      refine g_icmp_ge 38 F dX5_passBlanks_8 (by omega) (by omega) rfl (fun c_1 => ?_) (fun c_1 => ?_)
      · skip
        exact g_vreturn F hR dX5_passBlanks_38 (pV_i (by rw [ha, sk_stop (by omega)]) rfl)
      · skip
        have hb := ht q
        refine g_aload_n F dX5_passBlanks_11 rfl 1 rfl ?_
        refine ggN_Row_places F (by omega) fk_X5_41 dX5_passBlanks_12 ?_
        refine g_aload_n F dX5_passBlanks_15 rfl 0 rfl ?_
        refine gg_Reader_place F fk_X5_22 dX5_passBlanks_16 ?_
        refine g_topi (b := q) (by rw [xU_same]) ?_
        refine ga_20 F (by omega) (by omega) dX5_passBlanks_19 ?_
        refine g_topi (b := x 20 r q) (rfl) ?_
        refine g_bipush F dX5_passBlanks_20 (32) (by decide) ?_
        refine g_icmp_ne 38 F dX5_passBlanks_22 (by omega) (by decide) rfl (fun c_2 => ?_) (fun c_2 => ?_)
        · skip
          exact g_vreturn F hR dX5_passBlanks_38 (pV_i (by rw [ha, sk_stop (by omega)]) rfl)
        · skip
          refine g_aload_n F dX5_passBlanks_25 rfl 0 rfl ?_
          refine g_dup F dX5_passBlanks_26 rfl ?_
          refine gg_Reader_place F fk_X5_22 dX5_passBlanks_27 ?_
          refine g_topi (b := q) (by rw [xU_same]) ?_
          refine g_iconst F dX5_passBlanks_30 (1) (by decide) ?_
          refine g_iadd F dX5_passBlanks_31 ?_
          refine gp_Reader_place F fk_X5_22 dX5_passBlanks_32 ?_
          refine g_goto F 0 dX5_passBlanks_35 rfl ?_
          exact gW_eq (ih0 (q + 1) (by omega) (ha.trans (sk_go (by omega) (by omega))) (by omega)) rfl rfl rfl (by funext a b e; unfold xU; split <;> rfl) (rfl)
  exact gW_eq (L0 _ (x 37 0 0) (by omega) (rfl) (Nat.lt_succ_self _)) rfl rfl rfl ((xU_self x 37 0 0).symm) (rfl)

set_option maxRecDepth 20000 in
theorem c_X5_takeFigure (l : Launch) (D : gD) (ad : gA) (x : gX) (y : gY) (x0 : gX) (r c p m lo hi : Int) (hr : 0 ≤ r ∧ r < 10) (hS : RS x0 r x c p m) (hc : 0 ≤ c ∧ c < 28) (hp : 0 ≤ p ∧ p ≤ 100) (hn : (0 ≤ x0 17 r 0 ∧ x0 17 r 0 ≤ 60) ∧ x0 17 r 0 ≤ (if r < 6 then 40 else 60)) (ht : ∀ j : Int, -128 ≤ x0 20 r j ∧ x0 20 r j ≤ 127) (hl : (0 ≤ lo ∧ lo ≤ 9) ∧ 0 ≤ hi ∧ hi ≤ 9) (hv : rN (x0 20 r) (x0 17 r 0) c = x0 20 r p - 48) : gC l D ad 1 yX5_takeFigure cX5_takeFigure 5 (some .boolean) [.ref (ad 5 (0)), .ref (ad 6 (r)), .int (J (lo)), .int (J (hi))] x y (pG (.int (J (if fgP (x0 20 r) (x0 17 r 0) (p) lo hi then 1 else 0))) (fun u => (fgP (x0 20 r) (x0 17 r 0) (p) lo hi → RS x0 r u (c + 1) (p + 1) m) ∧ (¬ fgP (x0 20 r) (x0 17 r 0) (p) lo hi → RS x0 r u c p m)) (y)) := by
  refine g_met RX5 rfl (by decide +kernel) [(0, .ref (ad 5 (0))), (1, .ref (ad 6 (r))), (2, .int (J (lo))), (3, .int (J (hi)))] rfl (Nat.le_of_ble_eq_true rfl) (fun Θ F hR => ?_)
  refine g_aload_n F dX5_takeFigure_0 rfl 0 rfl ?_
  refine gg_Reader_place F fk_X5_22 dX5_takeFigure_1 ?_
  refine g_topi (b := p) (hS.2.2.1) ?_
  refine g_aload_n F dX5_takeFigure_4 rfl 1 rfl ?_
  refine ggN_Row_size F (by omega) fk_X5_33 dX5_takeFigure_5 ?_
  refine g_topi (b := x0 17 r 0) (by rw [hS.1 17 (by decide) (by decide) (by decide) (by decide)]) ?_
  refine g_icmp_lt 13 F dX5_takeFigure_8 (by omega) (by omega) rfl (fun c_1 => ?_) (fun c_1 => ?_)
  · skip
    have hb := ht p
    refine g_aload_n F dX5_takeFigure_13 rfl 1 rfl ?_
    refine ggN_Row_places F (by omega) fk_X5_41 dX5_takeFigure_14 ?_
    refine g_aload_n F dX5_takeFigure_17 rfl 0 rfl ?_
    refine gg_Reader_place F fk_X5_22 dX5_takeFigure_18 ?_
    refine g_topi (b := p) (hS.2.2.1) ?_
    refine ga_20 F (by omega) (by omega) dX5_takeFigure_21 ?_
    refine g_topi (b := x0 20 r (p)) (by rw [hS.1 20 (by decide) (by decide) (by decide) (by decide)]) ?_
    refine g_bipush F dX5_takeFigure_22 (48) (by decide) ?_
    refine g_isub F dX5_takeFigure_24 ?_
    refine g_istore F [(4, .int (J ((x0 20 r (p)) - (48)))), (0, .ref (ad 5 (0))), (1, .ref (ad 6 (r))), (2, .int (J (lo))), (3, .int (J (hi)))] dX5_takeFigure_25 (by decide) rfl ?_
    refine g_iload F dX5_takeFigure_27 0 rfl ?_
    refine g_iload_n F dX5_takeFigure_29 rfl 3 rfl ?_
    refine g_icmp_lt 39 F dX5_takeFigure_30 (by omega) (by omega) rfl (fun c_2 => ?_) (fun c_2 => ?_)
    · skip
      refine g_iconst F dX5_takeFigure_39 (0) (by decide) ?_
      exact g_zreturn F hR dX5_takeFigure_40 (by omega) (pG_z (by first | (rw [if_pos (by omega)]; done) | (rw [if_neg (by omega)]; done)) (by exact ⟨fun q => by first | (exact tkM_RS hS hc.1 (by omega)) | (exfalso; omega), fun q => by first | exact hS | (exfalso; omega)⟩) rfl)
    · skip
      refine g_iload F dX5_takeFigure_33 0 rfl ?_
      refine g_iload_n F dX5_takeFigure_35 rfl 4 rfl ?_
      refine g_icmp_le 41 F dX5_takeFigure_36 (by omega) (by omega) rfl (fun c_3 => ?_) (fun c_3 => ?_)
      · skip
        refine g_aload_n F dX5_takeFigure_41 rfl 1 rfl ?_
        refine g_iload F dX5_takeFigure_42 0 rfl ?_
        refine g_callV 1 F (As := [.int (J ((x0 20 r (p)) - (48)))]) (st := []) (c_X5_take l D ad x y ((x0 20 r (p)) - (48)) (by rw [hS.2.1]; exact hc)) (gR_5) rfl mk_X5_52 ki_X5_take kc_X5_take (by decide +kernel) rfl (by decide) dX5_takeFigure_44 rfl (Nat.le_of_ble_eq_true rfl) (pV_k ?_)
        refine g_iconst F dX5_takeFigure_47 (1) (by decide) ?_
        exact g_zreturn F hR dX5_takeFigure_48 (by omega) (pG_z (by first | (rw [if_pos (by omega)]; done) | (rw [if_neg (by omega)]; done)) (by exact ⟨fun q => by first | (exact tkM_RS hS hc.1 (by omega)) | (exfalso; omega), fun q => by first | exact hS | (exfalso; omega)⟩) rfl)
      · skip
        refine g_iconst F dX5_takeFigure_39 (0) (by decide) ?_
        exact g_zreturn F hR dX5_takeFigure_40 (by omega) (pG_z (by first | (rw [if_pos (by omega)]; done) | (rw [if_neg (by omega)]; done)) (by exact ⟨fun q => by first | (exact tkM_RS hS hc.1 (by omega)) | (exfalso; omega), fun q => by first | exact hS | (exfalso; omega)⟩) rfl)
  · skip
    refine g_iconst F dX5_takeFigure_11 (0) (by decide) ?_
    exact g_zreturn F hR dX5_takeFigure_12 (by omega) (pG_z (by first | (rw [if_pos (by omega)]; done) | (rw [if_neg (by omega)]; done)) (by exact ⟨fun q => by first | (exact tkM_RS hS hc.1 (by omega)) | (exfalso; omega), fun q => by first | exact hS | (exfalso; omega)⟩) rfl)

set_option maxRecDepth 20000 in
theorem c_X5_takeIron (l : Launch) (D : gD) (ad : gA) (x : gX) (y : gY) (x0 : gX) (r p : Int) (hr : 0 ≤ r ∧ r < 10) (hS : RS x0 r x 0 p 0) (hp : 0 ≤ p ∧ p ≤ 60) (hn : (0 ≤ x0 17 r 0 ∧ x0 17 r 0 ≤ 60) ∧ x0 17 r 0 ≤ (if r < 6 then 40 else 60)) (ht : ∀ j : Int, -128 ≤ x0 20 r j ∧ x0 20 r j ≤ 127) (hsk : p = sk (x0 20 r) (x0 17 r 0) 0) : gC l D ad 2 yX5_takeIron cX5_takeIron 2 (some .boolean) [.ref (ad 5 (0)), .ref (ad 6 (r))] x y (pG (.int (J (if irP (x0 20 r) (x0 17 r 0) p = p + 5 then 1 else 0))) (fun u => (irP (x0 20 r) (x0 17 r 0) p = p + 5 → RS x0 r u 4 (p + 5) 0) ∧ (irP (x0 20 r) (x0 17 r 0) p ≠ p + 5 → RF x0 u (irP (x0 20 r) (x0 17 r 0) p))) (y)) := by
  refine g_met RX5 rfl (by decide +kernel) [(0, .ref (ad 5 (0))), (1, .ref (ad 6 (r)))] rfl (Nat.le_of_ble_eq_true rfl) (fun Θ F hR => ?_)
  refine g_aload_n F dX5_takeIron_0 rfl 0 rfl ?_
  refine gg_Reader_place F fk_X5_22 dX5_takeIron_1 ?_
  refine g_topi (b := p) (hS.2.2.1) ?_
  refine g_aload_n F dX5_takeIron_4 rfl 1 rfl ?_
  refine ggN_Row_size F (by omega) fk_X5_33 dX5_takeIron_5 ?_
  refine g_topi (b := x0 17 r 0) (by rw [hS.1 17 (by decide) (by decide) (by decide) (by decide)]) ?_
  refine g_icmp_ge 25 F dX5_takeIron_8 (by omega) (by omega) rfl (fun c_1 => ?_) (fun c_1 => ?_)
  · skip
    refine g_iconst F dX5_takeIron_25 (0) (by decide) ?_
    exact g_zreturn F hR dX5_takeIron_26 (by omega) (pG_z (by first | (rw [if_pos (by unfold irP; (repeat' split) <;> omega)]; done) | (rw [if_neg (by unfold irP; (repeat' split) <;> omega)]; done)) (by exact ⟨fun q => by first | (exact RS_eq (hG_74.1 (by omega)) (by omega) (by omega) rfl) | (exfalso; revert q; unfold irP; (repeat' split) <;> omega), fun q => by first | (exfalso; apply q; unfold irP; (repeat' split) <;> omega) | exact RS_RF (hG_74.2 (by omega)) (by unfold irP; (repeat' split) <;> omega) | exact RS_RF (hG_63.2 (by omega)) (by unfold irP; (repeat' split) <;> omega) | exact RS_RF (hG_52.2 (by omega)) (by unfold irP; (repeat' split) <;> omega) | exact RS_RF (hG_41.2 (by omega)) (by unfold irP; (repeat' split) <;> omega) | exact RS_RF hS (by unfold irP; (repeat' split) <;> omega)⟩) rfl)
  · skip
    have hb := ht p
    refine g_aload_n F dX5_takeIron_11 rfl 1 rfl ?_
    refine ggN_Row_places F (by omega) fk_X5_41 dX5_takeIron_12 ?_
    refine g_aload_n F dX5_takeIron_15 rfl 0 rfl ?_
    refine gg_Reader_place F fk_X5_22 dX5_takeIron_16 ?_
    refine g_topi (b := p) (hS.2.2.1) ?_
    refine ga_20 F (by omega) (by omega) dX5_takeIron_19 ?_
    refine g_topi (b := x0 20 r (p)) (by rw [hS.1 20 (by decide) (by decide) (by decide) (by decide)]) ?_
    refine g_bipush F dX5_takeIron_20 (105) (by decide) ?_
    refine g_icmp_eq 27 F dX5_takeIron_22 (by omega) (by decide) rfl (fun c_2 => ?_) (fun c_2 => ?_)
    · skip
      refine g_aload_n F dX5_takeIron_27 rfl 0 rfl ?_
      refine g_dup F dX5_takeIron_28 rfl ?_
      refine gg_Reader_place F fk_X5_22 dX5_takeIron_29 ?_
      refine g_topi (b := p) (hS.2.2.1) ?_
      refine g_iconst F dX5_takeIron_32 (1) (by decide) ?_
      refine g_iadd F dX5_takeIron_33 ?_
      refine gp_Reader_place F fk_X5_22 dX5_takeIron_34 ?_
      refine g_aload_n F dX5_takeIron_37 rfl 0 rfl ?_
      refine g_aload_n F dX5_takeIron_38 rfl 1 rfl ?_
      refine g_iconst F dX5_takeIron_39 (1) (by decide) ?_
      refine g_iconst F dX5_takeIron_40 (3) (by decide) ?_
      refine g_callV 3 F (As := [.ref (ad 6 (r)), .int (J (1)), .int (J (3))]) (st := []) (c_X5_takeFigure l D ad (xU x 37 (0) (0) ((p) + (1))) y (x0) (r) (0) (p + 1) (0) (1) (3) (by omega) (RS_skip hS) (by omega) (by omega) (hn) (ht) (by omega) (by unfold rN; rw [if_pos (by decide), ← hsk]; rw [show p + 1 + 0 = p + 1 by omega])) (gR_5) rfl mk_X5_44 ki_X5_takeFigure kc_X5_takeFigure (by decide +kernel) rfl (by decide) dX5_takeIron_41 rfl (Nat.le_of_ble_eq_true rfl) (pG_k (fun u_41 hG_41 => ?_))
      refine g_ifb_eq 84 F dX5_takeIron_44 rfl (fun c_3 => ?_) (fun c_3 => ?_)
      · skip
        refine g_iconst F dX5_takeIron_84 (0) (by decide) ?_
        exact g_zreturn F hR dX5_takeIron_85 (by omega) (pG_z (by first | (rw [if_pos (by unfold irP; (repeat' split) <;> omega)]; done) | (rw [if_neg (by unfold irP; (repeat' split) <;> omega)]; done)) (by exact ⟨fun q => by first | (exact RS_eq (hG_74.1 (by omega)) (by omega) (by omega) rfl) | (exfalso; revert q; unfold irP; (repeat' split) <;> omega), fun q => by first | (exfalso; apply q; unfold irP; (repeat' split) <;> omega) | exact RS_RF (hG_74.2 (by omega)) (by unfold irP; (repeat' split) <;> omega) | exact RS_RF (hG_63.2 (by omega)) (by unfold irP; (repeat' split) <;> omega) | exact RS_RF (hG_52.2 (by omega)) (by unfold irP; (repeat' split) <;> omega) | exact RS_RF (hG_41.2 (by omega)) (by unfold irP; (repeat' split) <;> omega) | exact RS_RF hS (by unfold irP; (repeat' split) <;> omega)⟩) rfl)
      · skip
        refine g_aload_n F dX5_takeIron_47 rfl 0 rfl ?_
        refine g_aload_n F dX5_takeIron_48 rfl 1 rfl ?_
        refine g_iconst F dX5_takeIron_49 (0) (by decide) ?_
        refine g_bipush F dX5_takeIron_50 (9) (by decide) ?_
        refine g_callV 3 F (As := [.ref (ad 6 (r)), .int (J (0)), .int (J (9))]) (st := []) (c_X5_takeFigure l D ad u_41 y (x0) (r) (1) (p + 2) (0) (0) (9) (by omega) (RS_eq (hG_41.1 (by omega)) (by omega) (by omega) rfl) (by omega) (by omega) (hn) (ht) (by omega) (by unfold rN; rw [if_pos (by decide), ← hsk]; rw [show p + 1 + 1 = p + 2 by omega])) (gR_5) rfl mk_X5_44 ki_X5_takeFigure kc_X5_takeFigure (by decide +kernel) rfl (by decide) dX5_takeIron_52 rfl (Nat.le_of_ble_eq_true rfl) (pG_k (fun u_52 hG_52 => ?_))
        refine g_ifb_eq 84 F dX5_takeIron_55 rfl (fun c_4 => ?_) (fun c_4 => ?_)
        · skip
          refine g_iconst F dX5_takeIron_84 (0) (by decide) ?_
          exact g_zreturn F hR dX5_takeIron_85 (by omega) (pG_z (by first | (rw [if_pos (by unfold irP; (repeat' split) <;> omega)]; done) | (rw [if_neg (by unfold irP; (repeat' split) <;> omega)]; done)) (by exact ⟨fun q => by first | (exact RS_eq (hG_74.1 (by omega)) (by omega) (by omega) rfl) | (exfalso; revert q; unfold irP; (repeat' split) <;> omega), fun q => by first | (exfalso; apply q; unfold irP; (repeat' split) <;> omega) | exact RS_RF (hG_74.2 (by omega)) (by unfold irP; (repeat' split) <;> omega) | exact RS_RF (hG_63.2 (by omega)) (by unfold irP; (repeat' split) <;> omega) | exact RS_RF (hG_52.2 (by omega)) (by unfold irP; (repeat' split) <;> omega) | exact RS_RF (hG_41.2 (by omega)) (by unfold irP; (repeat' split) <;> omega) | exact RS_RF hS (by unfold irP; (repeat' split) <;> omega)⟩) rfl)
        · skip
          refine g_aload_n F dX5_takeIron_58 rfl 0 rfl ?_
          refine g_aload_n F dX5_takeIron_59 rfl 1 rfl ?_
          refine g_iconst F dX5_takeIron_60 (0) (by decide) ?_
          refine g_bipush F dX5_takeIron_61 (9) (by decide) ?_
          refine g_callV 3 F (As := [.ref (ad 6 (r)), .int (J (0)), .int (J (9))]) (st := []) (c_X5_takeFigure l D ad u_52 y (x0) (r) (2) (p + 3) (0) (0) (9) (by omega) (RS_eq (hG_52.1 (by omega)) (by omega) (by omega) rfl) (by omega) (by omega) (hn) (ht) (by omega) (by unfold rN; rw [if_pos (by decide), ← hsk]; rw [show p + 1 + 2 = p + 3 by omega])) (gR_5) rfl mk_X5_44 ki_X5_takeFigure kc_X5_takeFigure (by decide +kernel) rfl (by decide) dX5_takeIron_63 rfl (Nat.le_of_ble_eq_true rfl) (pG_k (fun u_63 hG_63 => ?_))
          refine g_ifb_eq 84 F dX5_takeIron_66 rfl (fun c_5 => ?_) (fun c_5 => ?_)
          · skip
            refine g_iconst F dX5_takeIron_84 (0) (by decide) ?_
            exact g_zreturn F hR dX5_takeIron_85 (by omega) (pG_z (by first | (rw [if_pos (by unfold irP; (repeat' split) <;> omega)]; done) | (rw [if_neg (by unfold irP; (repeat' split) <;> omega)]; done)) (by exact ⟨fun q => by first | (exact RS_eq (hG_74.1 (by omega)) (by omega) (by omega) rfl) | (exfalso; revert q; unfold irP; (repeat' split) <;> omega), fun q => by first | (exfalso; apply q; unfold irP; (repeat' split) <;> omega) | exact RS_RF (hG_74.2 (by omega)) (by unfold irP; (repeat' split) <;> omega) | exact RS_RF (hG_63.2 (by omega)) (by unfold irP; (repeat' split) <;> omega) | exact RS_RF (hG_52.2 (by omega)) (by unfold irP; (repeat' split) <;> omega) | exact RS_RF (hG_41.2 (by omega)) (by unfold irP; (repeat' split) <;> omega) | exact RS_RF hS (by unfold irP; (repeat' split) <;> omega)⟩) rfl)
          · skip
            refine g_aload_n F dX5_takeIron_69 rfl 0 rfl ?_
            refine g_aload_n F dX5_takeIron_70 rfl 1 rfl ?_
            refine g_iconst F dX5_takeIron_71 (1) (by decide) ?_
            refine g_bipush F dX5_takeIron_72 (6) (by decide) ?_
            refine g_callV 3 F (As := [.ref (ad 6 (r)), .int (J (1)), .int (J (6))]) (st := []) (c_X5_takeFigure l D ad u_63 y (x0) (r) (3) (p + 4) (0) (1) (6) (by omega) (RS_eq (hG_63.1 (by omega)) (by omega) (by omega) rfl) (by omega) (by omega) (hn) (ht) (by omega) (by unfold rN; rw [if_pos (by decide), ← hsk]; rw [show p + 1 + 3 = p + 4 by omega])) (gR_5) rfl mk_X5_44 ki_X5_takeFigure kc_X5_takeFigure (by decide +kernel) rfl (by decide) dX5_takeIron_74 rfl (Nat.le_of_ble_eq_true rfl) (pG_k (fun u_74 hG_74 => ?_))
            refine g_ifb_eq 84 F dX5_takeIron_77 rfl (fun c_6 => ?_) (fun c_6 => ?_)
            · skip
              refine g_iconst F dX5_takeIron_84 (0) (by decide) ?_
              exact g_zreturn F hR dX5_takeIron_85 (by omega) (pG_z (by first | (rw [if_pos (by unfold irP; (repeat' split) <;> omega)]; done) | (rw [if_neg (by unfold irP; (repeat' split) <;> omega)]; done)) (by exact ⟨fun q => by first | (exact RS_eq (hG_74.1 (by omega)) (by omega) (by omega) rfl) | (exfalso; revert q; unfold irP; (repeat' split) <;> omega), fun q => by first | (exfalso; apply q; unfold irP; (repeat' split) <;> omega) | exact RS_RF (hG_74.2 (by omega)) (by unfold irP; (repeat' split) <;> omega) | exact RS_RF (hG_63.2 (by omega)) (by unfold irP; (repeat' split) <;> omega) | exact RS_RF (hG_52.2 (by omega)) (by unfold irP; (repeat' split) <;> omega) | exact RS_RF (hG_41.2 (by omega)) (by unfold irP; (repeat' split) <;> omega) | exact RS_RF hS (by unfold irP; (repeat' split) <;> omega)⟩) rfl)
            · skip
              refine g_iconst F dX5_takeIron_80 (1) (by decide) ?_
              refine g_goto F 85 dX5_takeIron_81 rfl ?_
              exact g_zreturn F hR dX5_takeIron_85 (by omega) (pG_z (by first | (rw [if_pos (by unfold irP; (repeat' split) <;> omega)]; done) | (rw [if_neg (by unfold irP; (repeat' split) <;> omega)]; done)) (by exact ⟨fun q => by first | (exact RS_eq (hG_74.1 (by omega)) (by omega) (by omega) rfl) | (exfalso; revert q; unfold irP; (repeat' split) <;> omega), fun q => by first | (exfalso; apply q; unfold irP; (repeat' split) <;> omega) | exact RS_RF (hG_74.2 (by omega)) (by unfold irP; (repeat' split) <;> omega) | exact RS_RF (hG_63.2 (by omega)) (by unfold irP; (repeat' split) <;> omega) | exact RS_RF (hG_52.2 (by omega)) (by unfold irP; (repeat' split) <;> omega) | exact RS_RF (hG_41.2 (by omega)) (by unfold irP; (repeat' split) <;> omega) | exact RS_RF hS (by unfold irP; (repeat' split) <;> omega)⟩) rfl)
    · skip
      refine g_iconst F dX5_takeIron_25 (0) (by decide) ?_
      exact g_zreturn F hR dX5_takeIron_26 (by omega) (pG_z (by first | (rw [if_pos (by unfold irP; (repeat' split) <;> omega)]; done) | (rw [if_neg (by unfold irP; (repeat' split) <;> omega)]; done)) (by exact ⟨fun q => by first | (exact RS_eq (hG_74.1 (by omega)) (by omega) (by omega) rfl) | (exfalso; revert q; unfold irP; (repeat' split) <;> omega), fun q => by first | (exfalso; apply q; unfold irP; (repeat' split) <;> omega) | exact RS_RF (hG_74.2 (by omega)) (by unfold irP; (repeat' split) <;> omega) | exact RS_RF (hG_63.2 (by omega)) (by unfold irP; (repeat' split) <;> omega) | exact RS_RF (hG_52.2 (by omega)) (by unfold irP; (repeat' split) <;> omega) | exact RS_RF (hG_41.2 (by omega)) (by unfold irP; (repeat' split) <;> omega) | exact RS_RF hS (by unfold irP; (repeat' split) <;> omega)⟩) rfl)

set_option maxRecDepth 20000 in
theorem c_X5_takeMan (l : Launch) (D : gD) (ad : gA) (x : gX) (y : gY) (x0 : gX) (r c p m : Int) (hr : 0 ≤ r ∧ r < 10) (hS : RS x0 r x c p m) (hc : 0 ≤ c ∧ c ≤ 24) (hm : 0 ≤ m ∧ m ≤ 6) (hp : 0 ≤ p ∧ p < x0 17 r 0) (hn : (0 ≤ x0 17 r 0 ∧ x0 17 r 0 ≤ 60) ∧ x0 17 r 0 ≤ (if r < 6 then 40 else 60)) (ht : ∀ j : Int, -128 ≤ x0 20 r j ∧ x0 20 r j ≤ 127) (hN0 : rN (x0 20 r) (x0 17 r 0) c = kdO ((x0 20 r) p)) (hN1 : rN (x0 20 r) (x0 17 r 0) (c + 1) = (x0 20 r) (p + 1) - 48) (hN2 : rN (x0 20 r) (x0 17 r 0) (c + 2) = (x0 20 r) (p + 2) - 48) (hN3 : rN (x0 20 r) (x0 17 r 0) (c + 3) = (x0 20 r) (p + 3) - 48) : gC l D ad 2 yX5_takeMan cX5_takeMan 3 (some .boolean) [.ref (ad 5 (0)), .ref (ad 6 (r))] x y (pG (.int (J (if mnP (x0 20 r) (x0 17 r 0) p = p + 4 then 1 else 0))) (fun u => (mnP (x0 20 r) (x0 17 r 0) p = p + 4 → RS x0 r u (c + 4) (p + 4) (m + 1)) ∧ (mnP (x0 20 r) (x0 17 r 0) p ≠ p + 4 → RF x0 u (mnP (x0 20 r) (x0 17 r 0) p))) (y)) := by
  refine g_met RX5 rfl (by decide +kernel) [(0, .ref (ad 5 (0))), (1, .ref (ad 6 (r)))] rfl (Nat.le_of_ble_eq_true rfl) (fun Θ F hR => ?_)
  have hb := ht p
  refine g_aload_n F dX5_takeMan_0 rfl 1 rfl ?_
  refine ggN_Row_places F (by omega) fk_X5_41 dX5_takeMan_1 ?_
  refine g_aload_n F dX5_takeMan_4 rfl 0 rfl ?_
  refine gg_Reader_place F fk_X5_22 dX5_takeMan_5 ?_
  refine g_topi (b := p) (hS.2.2.1) ?_
  refine ga_20 F (by omega) (by omega) dX5_takeMan_8 ?_
  refine g_topi (b := x0 20 r (p)) (by rw [hS.1 20 (by decide) (by decide) (by decide) (by decide)]) ?_
  refine g_callS 1 F (As := [.int (J (x0 20 r (p)))]) (st := []) (c_X5_kindOf l D ad x y (x0 20 r (p)) (by omega)) rfl mk_X5_48 ki_X5_kindOf kc_X5_kindOf (by decide +kernel) rfl (by decide) dX5_takeMan_9 rfl (Nat.le_of_ble_eq_true rfl) (pI_k ?_)
  refine g_istore_n F [(2, .int (J (kdO (x0 20 r (p))))), (0, .ref (ad 5 (0))), (1, .ref (ad 6 (r)))] dX5_takeMan_12 rfl (by decide) rfl ?_
  have hk : -9 ≤ kdO (x0 20 r p) ∧ kdO (x0 20 r p) ≤ 5 := by unfold kdO; (repeat' split) <;> omega
  have hT := tkM_RS (v := kdO (x0 20 r p)) hS hc.1 hN0.symm
  refine g_iload_n F dX5_takeMan_13 rfl 0 rfl ?_
  refine g_bipush F dX5_takeMan_14 (-9) (by decide) ?_
  refine g_icmp_ne 21 F dX5_takeMan_16 (by omega) (by decide) rfl (fun c_1 => ?_) (fun c_1 => ?_)
  · skip
    refine g_aload_n F dX5_takeMan_21 rfl 1 rfl ?_
    refine g_iload_n F dX5_takeMan_22 rfl 0 rfl ?_
    refine g_callV 1 F (As := [.int (J (kdO (x0 20 r (p))))]) (st := []) (c_X5_take l D ad x y (kdO (x0 20 r (p))) (by rw [hS.2.1]; omega)) (gR_5) rfl mk_X5_52 ki_X5_take kc_X5_take (by decide +kernel) rfl (by decide) dX5_takeMan_23 rfl (Nat.le_of_ble_eq_true rfl) (pV_k ?_)
    refine g_aload_n F dX5_takeMan_26 rfl 1 rfl ?_
    refine g_dup F dX5_takeMan_27 rfl ?_
    refine gg_Reader_men F fk_X5_19 dX5_takeMan_28 ?_
    refine g_topi (b := m) (hT.2.2.2.1) ?_
    refine g_iconst F dX5_takeMan_31 (1) (by decide) ?_
    refine g_iadd F dX5_takeMan_32 ?_
    refine gp_Reader_men F fk_X5_19 dX5_takeMan_33 ?_
    refine g_aload_n F dX5_takeMan_36 rfl 1 rfl ?_
    refine g_aload_n F dX5_takeMan_37 rfl 2 rfl ?_
    refine g_iconst F dX5_takeMan_38 (0) (by decide) ?_
    refine g_iconst F dX5_takeMan_39 (1) (by decide) ?_
    refine g_callV 3 F (As := [.ref (ad 6 (r)), .int (J (0)), .int (J (1))]) (st := []) (c_X5_takeFigure l D ad (xU (tkM x (kdO (x0 20 r (p)))) 36 (0) (0) ((m) + (1))) y (x0) (r) (c + 1) (p + 1) (m + 1) (0) (1) (by omega) (RS_men hT rfl) (by omega) (by omega) (hn) (ht) (by omega) (hN1)) (gR_5) rfl mk_X5_44 ki_X5_takeFigure kc_X5_takeFigure (by decide +kernel) rfl (by decide) dX5_takeMan_40 rfl (Nat.le_of_ble_eq_true rfl) (pG_k (fun u_40 hG_40 => ?_))
    refine g_ifb_eq 72 F dX5_takeMan_43 rfl (fun c_2 => ?_) (fun c_2 => ?_)
    · skip
      refine g_iconst F dX5_takeMan_72 (0) (by decide) ?_
      exact g_zreturn F hR dX5_takeMan_73 (by omega) (pG_z (by first | (rw [if_pos (by unfold mnP; (repeat' split) <;> omega)]; done) | (rw [if_neg (by unfold mnP; (repeat' split) <;> omega)]; done)) (by exact ⟨fun q => by first | (exact RS_eq (hG_62.1 (by omega)) (by omega) (by omega) rfl) | (exfalso; revert q; unfold mnP; (repeat' split) <;> omega), fun q => by first | (exfalso; apply q; unfold mnP; (repeat' split) <;> omega) | exact RS_RF (hG_62.2 (by omega)) (by unfold mnP; (repeat' split) <;> omega) | exact RS_RF (hG_51.2 (by omega)) (by unfold mnP; (repeat' split) <;> omega) | exact RS_RF (hG_40.2 (by omega)) (by unfold mnP; (repeat' split) <;> omega) | exact RS_RF hS (by unfold mnP; (repeat' split) <;> omega)⟩) rfl)
    · skip
      refine g_aload_n F dX5_takeMan_46 rfl 1 rfl ?_
      refine g_aload_n F dX5_takeMan_47 rfl 2 rfl ?_
      refine g_iconst F dX5_takeMan_48 (0) (by decide) ?_
      refine g_bipush F dX5_takeMan_49 (9) (by decide) ?_
      refine g_callV 3 F (As := [.ref (ad 6 (r)), .int (J (0)), .int (J (9))]) (st := []) (c_X5_takeFigure l D ad u_40 y (x0) (r) (c + 2) (p + 2) (m + 1) (0) (9) (by omega) (RS_eq (hG_40.1 (by omega)) (by omega) (by omega) rfl) (by omega) (by omega) (hn) (ht) (by omega) (hN2)) (gR_5) rfl mk_X5_44 ki_X5_takeFigure kc_X5_takeFigure (by decide +kernel) rfl (by decide) dX5_takeMan_51 rfl (Nat.le_of_ble_eq_true rfl) (pG_k (fun u_51 hG_51 => ?_))
      refine g_ifb_eq 72 F dX5_takeMan_54 rfl (fun c_3 => ?_) (fun c_3 => ?_)
      · skip
        refine g_iconst F dX5_takeMan_72 (0) (by decide) ?_
        exact g_zreturn F hR dX5_takeMan_73 (by omega) (pG_z (by first | (rw [if_pos (by unfold mnP; (repeat' split) <;> omega)]; done) | (rw [if_neg (by unfold mnP; (repeat' split) <;> omega)]; done)) (by exact ⟨fun q => by first | (exact RS_eq (hG_62.1 (by omega)) (by omega) (by omega) rfl) | (exfalso; revert q; unfold mnP; (repeat' split) <;> omega), fun q => by first | (exfalso; apply q; unfold mnP; (repeat' split) <;> omega) | exact RS_RF (hG_62.2 (by omega)) (by unfold mnP; (repeat' split) <;> omega) | exact RS_RF (hG_51.2 (by omega)) (by unfold mnP; (repeat' split) <;> omega) | exact RS_RF (hG_40.2 (by omega)) (by unfold mnP; (repeat' split) <;> omega) | exact RS_RF hS (by unfold mnP; (repeat' split) <;> omega)⟩) rfl)
      · skip
        refine g_aload_n F dX5_takeMan_57 rfl 1 rfl ?_
        refine g_aload_n F dX5_takeMan_58 rfl 2 rfl ?_
        refine g_iconst F dX5_takeMan_59 (0) (by decide) ?_
        refine g_bipush F dX5_takeMan_60 (9) (by decide) ?_
        refine g_callV 3 F (As := [.ref (ad 6 (r)), .int (J (0)), .int (J (9))]) (st := []) (c_X5_takeFigure l D ad u_51 y (x0) (r) (c + 3) (p + 3) (m + 1) (0) (9) (by omega) (RS_eq (hG_51.1 (by omega)) (by omega) (by omega) rfl) (by omega) (by omega) (hn) (ht) (by omega) (hN3)) (gR_5) rfl mk_X5_44 ki_X5_takeFigure kc_X5_takeFigure (by decide +kernel) rfl (by decide) dX5_takeMan_62 rfl (Nat.le_of_ble_eq_true rfl) (pG_k (fun u_62 hG_62 => ?_))
        refine g_ifb_eq 72 F dX5_takeMan_65 rfl (fun c_4 => ?_) (fun c_4 => ?_)
        · skip
          refine g_iconst F dX5_takeMan_72 (0) (by decide) ?_
          exact g_zreturn F hR dX5_takeMan_73 (by omega) (pG_z (by first | (rw [if_pos (by unfold mnP; (repeat' split) <;> omega)]; done) | (rw [if_neg (by unfold mnP; (repeat' split) <;> omega)]; done)) (by exact ⟨fun q => by first | (exact RS_eq (hG_62.1 (by omega)) (by omega) (by omega) rfl) | (exfalso; revert q; unfold mnP; (repeat' split) <;> omega), fun q => by first | (exfalso; apply q; unfold mnP; (repeat' split) <;> omega) | exact RS_RF (hG_62.2 (by omega)) (by unfold mnP; (repeat' split) <;> omega) | exact RS_RF (hG_51.2 (by omega)) (by unfold mnP; (repeat' split) <;> omega) | exact RS_RF (hG_40.2 (by omega)) (by unfold mnP; (repeat' split) <;> omega) | exact RS_RF hS (by unfold mnP; (repeat' split) <;> omega)⟩) rfl)
        · skip
          refine g_iconst F dX5_takeMan_68 (1) (by decide) ?_
          refine g_goto F 73 dX5_takeMan_69 rfl ?_
          exact g_zreturn F hR dX5_takeMan_73 (by omega) (pG_z (by first | (rw [if_pos (by unfold mnP; (repeat' split) <;> omega)]; done) | (rw [if_neg (by unfold mnP; (repeat' split) <;> omega)]; done)) (by exact ⟨fun q => by first | (exact RS_eq (hG_62.1 (by omega)) (by omega) (by omega) rfl) | (exfalso; revert q; unfold mnP; (repeat' split) <;> omega), fun q => by first | (exfalso; apply q; unfold mnP; (repeat' split) <;> omega) | exact RS_RF (hG_62.2 (by omega)) (by unfold mnP; (repeat' split) <;> omega) | exact RS_RF (hG_51.2 (by omega)) (by unfold mnP; (repeat' split) <;> omega) | exact RS_RF (hG_40.2 (by omega)) (by unfold mnP; (repeat' split) <;> omega) | exact RS_RF hS (by unfold mnP; (repeat' split) <;> omega)⟩) rfl)
  · skip
    refine g_iconst F dX5_takeMan_19 (0) (by decide) ?_
    exact g_zreturn F hR dX5_takeMan_20 (by omega) (pG_z (by first | (rw [if_pos (by unfold mnP; (repeat' split) <;> omega)]; done) | (rw [if_neg (by unfold mnP; (repeat' split) <;> omega)]; done)) (by exact ⟨fun q => by first | (exact RS_eq (hG_62.1 (by omega)) (by omega) (by omega) rfl) | (exfalso; revert q; unfold mnP; (repeat' split) <;> omega), fun q => by first | (exfalso; apply q; unfold mnP; (repeat' split) <;> omega) | exact RS_RF (hG_62.2 (by omega)) (by unfold mnP; (repeat' split) <;> omega) | exact RS_RF (hG_51.2 (by omega)) (by unfold mnP; (repeat' split) <;> omega) | exact RS_RF (hG_40.2 (by omega)) (by unfold mnP; (repeat' split) <;> omega) | exact RS_RF hS (by unfold mnP; (repeat' split) <;> omega)⟩) rfl)
