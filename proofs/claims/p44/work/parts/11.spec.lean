/-! what the document's words are in numbers: kinds, hands, heat -/
abbrev sOf (own k : Int) : Prop := own = k ∨ k = 0 ∨ (k = 1 ∧ own = 4) ∨ (k = 2 ∧ own = 5)
def sHard (k h : Int) : Int := if k = 1 then h + 3 else if k = 4 then h + 5 else if k = 2 ∨ k = 5 then h / 2 else h
def sPlain (m b h : Int) : Int := if 5 ≤ b then max (h - m) 0 else h
def sFelt (m k b h : Int) : Int := if k = 5 then sPlain m b h / 2 else sPlain m b h
def sBurn (p m k b hd h : Int) : Int := max 0 (p * sFelt m k b h - sHard k hd)
abbrev sComes (k g b h : Int) : Prop := k = 4 ∨ ((g = 0 ∨ b < 3) ∧ (¬ (k = 2 ∨ k = 5) ∨ h ≤ 20) ∧ (k ≠ 3 ∨ h ≤ 10))
abbrev sWr (g t : Int) : Prop := (t = 1 ∧ g = 1) ∨ (t ≠ 1 ∧ g ≠ 1)
/-- what it burns one who is the i-th, by a heat -/
def bU (x : gX) (i h : Int) : Int := sBurn (x 11 0 0) (x 12 0 0) (x 1 i 0) (x 3 i 0) (x 4 i 0) h
def lU (x : gX) (i h : Int) : Int := bU x i h - x 13 0 0 - 2 * x 5 i 0
abbrev cU (x : gX) (i h : Int) : Prop := sComes (x 1 i 0) (x 2 i 0) (x 3 i 0) h
def vU (x : gX) (i h : Int) : Int := if cU x i h then (if 0 < lU x i h then 0 else 1) else 2
abbrev MOK (x : gX) (i : Int) : Prop := (0 ≤ x 1 i 0 ∧ x 1 i 0 ≤ 5) ∧ (0 ≤ x 2 i 0 ∧ x 2 i 0 ≤ 1) ∧ (0 ≤ x 3 i 0 ∧ x 3 i 0 ≤ 9) ∧ (0 ≤ x 4 i 0 ∧ x 4 i 0 ≤ 9) ∧ (0 ≤ x 5 i 0 ∧ x 5 i 0 ≤ 100) ∧ (-9 ≤ x 6 i 0 ∧ x 6 i 0 ≤ 2) ∧ (0 ≤ x 7 i 0 ∧ x 7 i 0 ≤ 1)
abbrev IOK (x : gX) : Prop := (0 ≤ x 11 0 0 ∧ x 11 0 0 ≤ 3) ∧ (0 ≤ x 12 0 0 ∧ x 12 0 0 ≤ 9) ∧ (0 ≤ x 13 0 0 ∧ x 13 0 0 ≤ 9) ∧ (0 ≤ x 14 0 0 ∧ x 14 0 0 ≤ 6)
theorem sHard_r {k h : Int} (h0 : 0 ≤ h ∧ h ≤ 9) : 0 ≤ sHard k h ∧ sHard k h ≤ 14 := by unfold sHard; (repeat' split) <;> omega
theorem sPlain_r {m b h : Int} (h0 : 0 ≤ h ∧ h ≤ 100) (hm : 0 ≤ m) : 0 ≤ sPlain m b h ∧ sPlain m b h ≤ 100 := by unfold sPlain; split <;> omega
theorem sFelt_r {m k b h : Int} (h0 : 0 ≤ h ∧ h ≤ 100) (hm : 0 ≤ m) : 0 ≤ sFelt m k b h ∧ sFelt m k b h ≤ 100 := by
  have := sPlain_r (b := b) h0 hm
  unfold sFelt; split <;> omega
theorem pm_r {p f : Int} (hp : 0 ≤ p ∧ p ≤ 3) (hf : 0 ≤ f ∧ f ≤ 100) : 0 ≤ p * f ∧ p * f ≤ 300 := by
  rcases (show p = 0 ∨ p = 1 ∨ p = 2 ∨ p = 3 by omega) with rfl | rfl | rfl | rfl <;> omega
theorem sBurn_r {p m k b hd h : Int} (hp : 0 ≤ p ∧ p ≤ 3) (hm : 0 ≤ m) (h1 : 0 ≤ hd ∧ hd ≤ 9) (h0 : 0 ≤ h ∧ h ≤ 100) : 0 ≤ sBurn p m k b hd h ∧ sBurn p m k b hd h ≤ 300 := by
  have a := sFelt_r (k := k) (b := b) h0 hm
  have b1 := sHard_r (k := k) h1
  have c := pm_r hp a
  unfold sBurn; omega
theorem bU_r {x : gX} {i h : Int} (hI : IOK x) (hm : MOK x i) (h0 : 0 ≤ h ∧ h ≤ 100) : 0 ≤ bU x i h ∧ bU x i h ≤ 300 := sBurn_r hI.1 hI.2.1.1 hm.2.2.2.1 h0
theorem lU_r {x : gX} {i h : Int} (hI : IOK x) (hm : MOK x i) (h0 : 0 ≤ h ∧ h ≤ 100) : -300 ≤ lU x i h ∧ lU x i h ≤ 300 := by
  have a := bU_r hI hm h0
  unfold lU; omega
theorem vU_r (x : gX) (i h : Int) : 0 ≤ vU x i h ∧ vU x i h ≤ 2 := by unfold vU; (repeat' split) <;> omega
