theorem gE_p_0_10 {cI cR cM cD : ClassId} {ad : gA} {x : gX} {y : gY} {a : Int} (k1 i1 : Int) : gE cI cR cM cD ad (xU x 10 0 0 a) y k1 i1 = if k1 = 0 ∧ i1 = 0 then .inr (0, [.ref (ad 32 0), .ref (ad 3 6), .ref (ad 1 0), .int (J (x 10 0 0)), .int (J (x 11 0 0)), .int (J (x 12 0 0)), .int (J (x 13 0 0)), .int (J (x 14 0 0)), .int (J (x 15 0 0))].set 3 (.int (J a))) else gE cI cR cM cD ad x y k1 i1 := by
  by_cases hk : k1 = 0
  · subst hk
    show gE0 cI cR cM cD ad (xU x 10 0 0 a) y i1 = if 0 = 0 ∧ i1 = 0 then .inr (0, [.ref (ad 32 0), .ref (ad 3 6), .ref (ad 1 0), .int (J (x 10 0 0)), .int (J (x 11 0 0)), .int (J (x 12 0 0)), .int (J (x 13 0 0)), .int (J (x 14 0 0)), .int (J (x 15 0 0))].set 3 (.int (J a))) else gE0 cI cR cM cD ad x y i1
    by_cases h2 : i1 = 0
    · rw [h2, if_pos ⟨rfl, rfl⟩]
      simp [gE0, xU]
    · rw [if_neg (fun q => h2 q.2)]
      simp [gE0, xU, h2]
  · rw [if_neg (fun q => hk q.1)]
    unfold gE
    refine ite_congr rfl (fun h => absurd h hk) (fun _ => ?_)
    refine ite_congr rfl (fun _ => rfl) (fun _ => ?_)
    refine ite_congr rfl (fun _ => rfl) (fun _ => ?_)
    refine ite_congr rfl (fun _ => rfl) (fun _ => ?_)
    refine ite_congr rfl (fun _ => rfl) (fun _ => ?_)
    refine ite_congr rfl (fun _ => rfl) (fun _ => ?_)
    refine ite_congr rfl (fun _ => rfl) (fun _ => ?_)
    refine ite_congr rfl (fun _ => rfl) (fun _ => ?_)
    refine ite_congr rfl (fun _ => rfl) (fun _ => ?_)
    refine ite_congr rfl (fun _ => rfl) (fun _ => ?_)
    refine ite_congr rfl (fun _ => rfl) (fun _ => ?_)
    refine ite_congr rfl (fun _ => rfl) (fun _ => ?_)
    refine ite_congr rfl (fun _ => rfl) (fun _ => ?_)
    refine ite_congr rfl (fun _ => rfl) (fun _ => ?_)
    refine ite_congr rfl (fun _ => rfl) (fun _ => ?_)
    refine ite_congr rfl (fun _ => rfl) (fun _ => ?_)
    refine ite_congr rfl (fun _ => rfl) (fun _ => ?_)
    refine ite_congr rfl (fun _ => rfl) (fun _ => ?_)
    refine ite_congr rfl (fun _ => rfl) (fun _ => ?_)
    refine ite_congr rfl (fun _ => rfl) (fun _ => ?_)
    refine ite_congr rfl (fun _ => rfl) (fun _ => ?_)
    refine ite_congr rfl (fun _ => rfl) (fun _ => ?_)
    rfl
theorem gE_p_0_11 {cI cR cM cD : ClassId} {ad : gA} {x : gX} {y : gY} {a : Int} (k1 i1 : Int) : gE cI cR cM cD ad (xU x 11 0 0 a) y k1 i1 = if k1 = 0 ∧ i1 = 0 then .inr (0, [.ref (ad 32 0), .ref (ad 3 6), .ref (ad 1 0), .int (J (x 10 0 0)), .int (J (x 11 0 0)), .int (J (x 12 0 0)), .int (J (x 13 0 0)), .int (J (x 14 0 0)), .int (J (x 15 0 0))].set 4 (.int (J a))) else gE cI cR cM cD ad x y k1 i1 := by
  by_cases hk : k1 = 0
  · subst hk
    show gE0 cI cR cM cD ad (xU x 11 0 0 a) y i1 = if 0 = 0 ∧ i1 = 0 then .inr (0, [.ref (ad 32 0), .ref (ad 3 6), .ref (ad 1 0), .int (J (x 10 0 0)), .int (J (x 11 0 0)), .int (J (x 12 0 0)), .int (J (x 13 0 0)), .int (J (x 14 0 0)), .int (J (x 15 0 0))].set 4 (.int (J a))) else gE0 cI cR cM cD ad x y i1
    by_cases h2 : i1 = 0
    · rw [h2, if_pos ⟨rfl, rfl⟩]
      simp [gE0, xU]
    · rw [if_neg (fun q => h2 q.2)]
      simp [gE0, xU, h2]
  · rw [if_neg (fun q => hk q.1)]
    unfold gE
    refine ite_congr rfl (fun h => absurd h hk) (fun _ => ?_)
    refine ite_congr rfl (fun _ => rfl) (fun _ => ?_)
    refine ite_congr rfl (fun _ => rfl) (fun _ => ?_)
    refine ite_congr rfl (fun _ => rfl) (fun _ => ?_)
    refine ite_congr rfl (fun _ => rfl) (fun _ => ?_)
    refine ite_congr rfl (fun _ => rfl) (fun _ => ?_)
    refine ite_congr rfl (fun _ => rfl) (fun _ => ?_)
    refine ite_congr rfl (fun _ => rfl) (fun _ => ?_)
    refine ite_congr rfl (fun _ => rfl) (fun _ => ?_)
    refine ite_congr rfl (fun _ => rfl) (fun _ => ?_)
    refine ite_congr rfl (fun _ => rfl) (fun _ => ?_)
    refine ite_congr rfl (fun _ => rfl) (fun _ => ?_)
    refine ite_congr rfl (fun _ => rfl) (fun _ => ?_)
    refine ite_congr rfl (fun _ => rfl) (fun _ => ?_)
    refine ite_congr rfl (fun _ => rfl) (fun _ => ?_)
    refine ite_congr rfl (fun _ => rfl) (fun _ => ?_)
    refine ite_congr rfl (fun _ => rfl) (fun _ => ?_)
    refine ite_congr rfl (fun _ => rfl) (fun _ => ?_)
    refine ite_congr rfl (fun _ => rfl) (fun _ => ?_)
    refine ite_congr rfl (fun _ => rfl) (fun _ => ?_)
    refine ite_congr rfl (fun _ => rfl) (fun _ => ?_)
    refine ite_congr rfl (fun _ => rfl) (fun _ => ?_)
    rfl
theorem gE_p_0_12 {cI cR cM cD : ClassId} {ad : gA} {x : gX} {y : gY} {a : Int} (k1 i1 : Int) : gE cI cR cM cD ad (xU x 12 0 0 a) y k1 i1 = if k1 = 0 ∧ i1 = 0 then .inr (0, [.ref (ad 32 0), .ref (ad 3 6), .ref (ad 1 0), .int (J (x 10 0 0)), .int (J (x 11 0 0)), .int (J (x 12 0 0)), .int (J (x 13 0 0)), .int (J (x 14 0 0)), .int (J (x 15 0 0))].set 5 (.int (J a))) else gE cI cR cM cD ad x y k1 i1 := by
  by_cases hk : k1 = 0
  · subst hk
    show gE0 cI cR cM cD ad (xU x 12 0 0 a) y i1 = if 0 = 0 ∧ i1 = 0 then .inr (0, [.ref (ad 32 0), .ref (ad 3 6), .ref (ad 1 0), .int (J (x 10 0 0)), .int (J (x 11 0 0)), .int (J (x 12 0 0)), .int (J (x 13 0 0)), .int (J (x 14 0 0)), .int (J (x 15 0 0))].set 5 (.int (J a))) else gE0 cI cR cM cD ad x y i1
    by_cases h2 : i1 = 0
    · rw [h2, if_pos ⟨rfl, rfl⟩]
      simp [gE0, xU]
    · rw [if_neg (fun q => h2 q.2)]
      simp [gE0, xU, h2]
  · rw [if_neg (fun q => hk q.1)]
    unfold gE
    refine ite_congr rfl (fun h => absurd h hk) (fun _ => ?_)
    refine ite_congr rfl (fun _ => rfl) (fun _ => ?_)
    refine ite_congr rfl (fun _ => rfl) (fun _ => ?_)
    refine ite_congr rfl (fun _ => rfl) (fun _ => ?_)
    refine ite_congr rfl (fun _ => rfl) (fun _ => ?_)
    refine ite_congr rfl (fun _ => rfl) (fun _ => ?_)
    refine ite_congr rfl (fun _ => rfl) (fun _ => ?_)
    refine ite_congr rfl (fun _ => rfl) (fun _ => ?_)
    refine ite_congr rfl (fun _ => rfl) (fun _ => ?_)
    refine ite_congr rfl (fun _ => rfl) (fun _ => ?_)
    refine ite_congr rfl (fun _ => rfl) (fun _ => ?_)
    refine ite_congr rfl (fun _ => rfl) (fun _ => ?_)
    refine ite_congr rfl (fun _ => rfl) (fun _ => ?_)
    refine ite_congr rfl (fun _ => rfl) (fun _ => ?_)
    refine ite_congr rfl (fun _ => rfl) (fun _ => ?_)
    refine ite_congr rfl (fun _ => rfl) (fun _ => ?_)
    refine ite_congr rfl (fun _ => rfl) (fun _ => ?_)
    refine ite_congr rfl (fun _ => rfl) (fun _ => ?_)
    refine ite_congr rfl (fun _ => rfl) (fun _ => ?_)
    refine ite_congr rfl (fun _ => rfl) (fun _ => ?_)
    refine ite_congr rfl (fun _ => rfl) (fun _ => ?_)
    refine ite_congr rfl (fun _ => rfl) (fun _ => ?_)
    rfl
theorem gE_p_0_13 {cI cR cM cD : ClassId} {ad : gA} {x : gX} {y : gY} {a : Int} (k1 i1 : Int) : gE cI cR cM cD ad (xU x 13 0 0 a) y k1 i1 = if k1 = 0 ∧ i1 = 0 then .inr (0, [.ref (ad 32 0), .ref (ad 3 6), .ref (ad 1 0), .int (J (x 10 0 0)), .int (J (x 11 0 0)), .int (J (x 12 0 0)), .int (J (x 13 0 0)), .int (J (x 14 0 0)), .int (J (x 15 0 0))].set 6 (.int (J a))) else gE cI cR cM cD ad x y k1 i1 := by
  by_cases hk : k1 = 0
  · subst hk
    show gE0 cI cR cM cD ad (xU x 13 0 0 a) y i1 = if 0 = 0 ∧ i1 = 0 then .inr (0, [.ref (ad 32 0), .ref (ad 3 6), .ref (ad 1 0), .int (J (x 10 0 0)), .int (J (x 11 0 0)), .int (J (x 12 0 0)), .int (J (x 13 0 0)), .int (J (x 14 0 0)), .int (J (x 15 0 0))].set 6 (.int (J a))) else gE0 cI cR cM cD ad x y i1
    by_cases h2 : i1 = 0
    · rw [h2, if_pos ⟨rfl, rfl⟩]
      simp [gE0, xU]
    · rw [if_neg (fun q => h2 q.2)]
      simp [gE0, xU, h2]
  · rw [if_neg (fun q => hk q.1)]
    unfold gE
    refine ite_congr rfl (fun h => absurd h hk) (fun _ => ?_)
    refine ite_congr rfl (fun _ => rfl) (fun _ => ?_)
    refine ite_congr rfl (fun _ => rfl) (fun _ => ?_)
    refine ite_congr rfl (fun _ => rfl) (fun _ => ?_)
    refine ite_congr rfl (fun _ => rfl) (fun _ => ?_)
    refine ite_congr rfl (fun _ => rfl) (fun _ => ?_)
    refine ite_congr rfl (fun _ => rfl) (fun _ => ?_)
    refine ite_congr rfl (fun _ => rfl) (fun _ => ?_)
    refine ite_congr rfl (fun _ => rfl) (fun _ => ?_)
    refine ite_congr rfl (fun _ => rfl) (fun _ => ?_)
    refine ite_congr rfl (fun _ => rfl) (fun _ => ?_)
    refine ite_congr rfl (fun _ => rfl) (fun _ => ?_)
    refine ite_congr rfl (fun _ => rfl) (fun _ => ?_)
    refine ite_congr rfl (fun _ => rfl) (fun _ => ?_)
    refine ite_congr rfl (fun _ => rfl) (fun _ => ?_)
    refine ite_congr rfl (fun _ => rfl) (fun _ => ?_)
    refine ite_congr rfl (fun _ => rfl) (fun _ => ?_)
    refine ite_congr rfl (fun _ => rfl) (fun _ => ?_)
    refine ite_congr rfl (fun _ => rfl) (fun _ => ?_)
    refine ite_congr rfl (fun _ => rfl) (fun _ => ?_)
    refine ite_congr rfl (fun _ => rfl) (fun _ => ?_)
    refine ite_congr rfl (fun _ => rfl) (fun _ => ?_)
    rfl
theorem gE_p_0_14 {cI cR cM cD : ClassId} {ad : gA} {x : gX} {y : gY} {a : Int} (k1 i1 : Int) : gE cI cR cM cD ad (xU x 14 0 0 a) y k1 i1 = if k1 = 0 ∧ i1 = 0 then .inr (0, [.ref (ad 32 0), .ref (ad 3 6), .ref (ad 1 0), .int (J (x 10 0 0)), .int (J (x 11 0 0)), .int (J (x 12 0 0)), .int (J (x 13 0 0)), .int (J (x 14 0 0)), .int (J (x 15 0 0))].set 7 (.int (J a))) else gE cI cR cM cD ad x y k1 i1 := by
  by_cases hk : k1 = 0
  · subst hk
    show gE0 cI cR cM cD ad (xU x 14 0 0 a) y i1 = if 0 = 0 ∧ i1 = 0 then .inr (0, [.ref (ad 32 0), .ref (ad 3 6), .ref (ad 1 0), .int (J (x 10 0 0)), .int (J (x 11 0 0)), .int (J (x 12 0 0)), .int (J (x 13 0 0)), .int (J (x 14 0 0)), .int (J (x 15 0 0))].set 7 (.int (J a))) else gE0 cI cR cM cD ad x y i1
    by_cases h2 : i1 = 0
    · rw [h2, if_pos ⟨rfl, rfl⟩]
      simp [gE0, xU]
    · rw [if_neg (fun q => h2 q.2)]
      simp [gE0, xU, h2]
  · rw [if_neg (fun q => hk q.1)]
    unfold gE
    refine ite_congr rfl (fun h => absurd h hk) (fun _ => ?_)
    refine ite_congr rfl (fun _ => rfl) (fun _ => ?_)
    refine ite_congr rfl (fun _ => rfl) (fun _ => ?_)
    refine ite_congr rfl (fun _ => rfl) (fun _ => ?_)
    refine ite_congr rfl (fun _ => rfl) (fun _ => ?_)
    refine ite_congr rfl (fun _ => rfl) (fun _ => ?_)
    refine ite_congr rfl (fun _ => rfl) (fun _ => ?_)
    refine ite_congr rfl (fun _ => rfl) (fun _ => ?_)
    refine ite_congr rfl (fun _ => rfl) (fun _ => ?_)
    refine ite_congr rfl (fun _ => rfl) (fun _ => ?_)
    refine ite_congr rfl (fun _ => rfl) (fun _ => ?_)
    refine ite_congr rfl (fun _ => rfl) (fun _ => ?_)
    refine ite_congr rfl (fun _ => rfl) (fun _ => ?_)
    refine ite_congr rfl (fun _ => rfl) (fun _ => ?_)
    refine ite_congr rfl (fun _ => rfl) (fun _ => ?_)
    refine ite_congr rfl (fun _ => rfl) (fun _ => ?_)
    refine ite_congr rfl (fun _ => rfl) (fun _ => ?_)
    refine ite_congr rfl (fun _ => rfl) (fun _ => ?_)
    refine ite_congr rfl (fun _ => rfl) (fun _ => ?_)
    refine ite_congr rfl (fun _ => rfl) (fun _ => ?_)
    refine ite_congr rfl (fun _ => rfl) (fun _ => ?_)
    refine ite_congr rfl (fun _ => rfl) (fun _ => ?_)
    rfl
theorem gE_p_0_15 {cI cR cM cD : ClassId} {ad : gA} {x : gX} {y : gY} {a : Int} (k1 i1 : Int) : gE cI cR cM cD ad (xU x 15 0 0 a) y k1 i1 = if k1 = 0 ∧ i1 = 0 then .inr (0, [.ref (ad 32 0), .ref (ad 3 6), .ref (ad 1 0), .int (J (x 10 0 0)), .int (J (x 11 0 0)), .int (J (x 12 0 0)), .int (J (x 13 0 0)), .int (J (x 14 0 0)), .int (J (x 15 0 0))].set 8 (.int (J a))) else gE cI cR cM cD ad x y k1 i1 := by
  by_cases hk : k1 = 0
  · subst hk
    show gE0 cI cR cM cD ad (xU x 15 0 0 a) y i1 = if 0 = 0 ∧ i1 = 0 then .inr (0, [.ref (ad 32 0), .ref (ad 3 6), .ref (ad 1 0), .int (J (x 10 0 0)), .int (J (x 11 0 0)), .int (J (x 12 0 0)), .int (J (x 13 0 0)), .int (J (x 14 0 0)), .int (J (x 15 0 0))].set 8 (.int (J a))) else gE0 cI cR cM cD ad x y i1
    by_cases h2 : i1 = 0
    · rw [h2, if_pos ⟨rfl, rfl⟩]
      simp [gE0, xU]
    · rw [if_neg (fun q => h2 q.2)]
      simp [gE0, xU, h2]
  · rw [if_neg (fun q => hk q.1)]
    unfold gE
    refine ite_congr rfl (fun h => absurd h hk) (fun _ => ?_)
    refine ite_congr rfl (fun _ => rfl) (fun _ => ?_)
    refine ite_congr rfl (fun _ => rfl) (fun _ => ?_)
    refine ite_congr rfl (fun _ => rfl) (fun _ => ?_)
    refine ite_congr rfl (fun _ => rfl) (fun _ => ?_)
    refine ite_congr rfl (fun _ => rfl) (fun _ => ?_)
    refine ite_congr rfl (fun _ => rfl) (fun _ => ?_)
    refine ite_congr rfl (fun _ => rfl) (fun _ => ?_)
    refine ite_congr rfl (fun _ => rfl) (fun _ => ?_)
    refine ite_congr rfl (fun _ => rfl) (fun _ => ?_)
    refine ite_congr rfl (fun _ => rfl) (fun _ => ?_)
    refine ite_congr rfl (fun _ => rfl) (fun _ => ?_)
    refine ite_congr rfl (fun _ => rfl) (fun _ => ?_)
    refine ite_congr rfl (fun _ => rfl) (fun _ => ?_)
    refine ite_congr rfl (fun _ => rfl) (fun _ => ?_)
    refine ite_congr rfl (fun _ => rfl) (fun _ => ?_)
    refine ite_congr rfl (fun _ => rfl) (fun _ => ?_)
    refine ite_congr rfl (fun _ => rfl) (fun _ => ?_)
    refine ite_congr rfl (fun _ => rfl) (fun _ => ?_)
    refine ite_congr rfl (fun _ => rfl) (fun _ => ?_)
    refine ite_congr rfl (fun _ => rfl) (fun _ => ?_)
    refine ite_congr rfl (fun _ => rfl) (fun _ => ?_)
    rfl
theorem gE_p_1_16 {cI cR cM cD : ClassId} {ad : gA} {x : gX} {y : gY} {i a : Int} (k1 i1 : Int) : gE cI cR cM cD ad (xU x 16 i 0 a) y k1 i1 = if k1 = 1 ∧ i1 = i then .inr (1, [.ref (ad 21 i), .ref (ad 22 i), .int (J (x 16 i 0))].set 2 (.int (J a))) else gE cI cR cM cD ad x y k1 i1 := by
  by_cases hk : k1 = 1
  · subst hk
    show gE1 cI cR cM cD ad (xU x 16 i 0 a) y i1 = if 1 = 1 ∧ i1 = i then .inr (1, [.ref (ad 21 i), .ref (ad 22 i), .int (J (x 16 i 0))].set 2 (.int (J a))) else gE1 cI cR cM cD ad x y i1
    by_cases h2 : i1 = i
    · rw [h2, if_pos ⟨rfl, rfl⟩]
      simp [gE1, xU]
    · rw [if_neg (fun q => h2 q.2)]
      simp [gE1, xU, h2]
  · rw [if_neg (fun q => hk q.1)]
    unfold gE
    refine ite_congr rfl (fun _ => rfl) (fun _ => ?_)
    refine ite_congr rfl (fun h => absurd h hk) (fun _ => ?_)
    refine ite_congr rfl (fun _ => rfl) (fun _ => ?_)
    refine ite_congr rfl (fun _ => rfl) (fun _ => ?_)
    refine ite_congr rfl (fun _ => rfl) (fun _ => ?_)
    refine ite_congr rfl (fun _ => rfl) (fun _ => ?_)
    refine ite_congr rfl (fun _ => rfl) (fun _ => ?_)
    refine ite_congr rfl (fun _ => rfl) (fun _ => ?_)
    refine ite_congr rfl (fun _ => rfl) (fun _ => ?_)
    refine ite_congr rfl (fun _ => rfl) (fun _ => ?_)
    refine ite_congr rfl (fun _ => rfl) (fun _ => ?_)
    refine ite_congr rfl (fun _ => rfl) (fun _ => ?_)
    refine ite_congr rfl (fun _ => rfl) (fun _ => ?_)
    refine ite_congr rfl (fun _ => rfl) (fun _ => ?_)
    refine ite_congr rfl (fun _ => rfl) (fun _ => ?_)
    refine ite_congr rfl (fun _ => rfl) (fun _ => ?_)
    refine ite_congr rfl (fun _ => rfl) (fun _ => ?_)
    refine ite_congr rfl (fun _ => rfl) (fun _ => ?_)
    refine ite_congr rfl (fun _ => rfl) (fun _ => ?_)
    refine ite_congr rfl (fun _ => rfl) (fun _ => ?_)
    refine ite_congr rfl (fun _ => rfl) (fun _ => ?_)
    refine ite_congr rfl (fun _ => rfl) (fun _ => ?_)
    rfl
theorem gE_p_2_38 {cI cR cM cD : ClassId} {ad : gA} {x : gX} {y : gY} {a : Int} (k1 i1 : Int) : gE cI cR cM cD ad (xU x 38 0 0 a) y k1 i1 = if k1 = 2 ∧ i1 = 0 then .inr (2, [.ref (ad 25 (x 38 0 0)), .ref (ad 25 (x 39 0 0))].set 0 (.ref (ad 25 a))) else gE cI cR cM cD ad x y k1 i1 := by
  by_cases hk : k1 = 2
  · subst hk
    show gE2 cI cR cM cD ad (xU x 38 0 0 a) y i1 = if 2 = 2 ∧ i1 = 0 then .inr (2, [.ref (ad 25 (x 38 0 0)), .ref (ad 25 (x 39 0 0))].set 0 (.ref (ad 25 a))) else gE2 cI cR cM cD ad x y i1
    by_cases h2 : i1 = 0
    · rw [h2, if_pos ⟨rfl, rfl⟩]
      simp [gE2, xU]
    · rw [if_neg (fun q => h2 q.2)]
      simp [gE2, xU, h2]
  · rw [if_neg (fun q => hk q.1)]
    unfold gE
    refine ite_congr rfl (fun _ => rfl) (fun _ => ?_)
    refine ite_congr rfl (fun _ => rfl) (fun _ => ?_)
    refine ite_congr rfl (fun h => absurd h hk) (fun _ => ?_)
    refine ite_congr rfl (fun _ => rfl) (fun _ => ?_)
    refine ite_congr rfl (fun _ => rfl) (fun _ => ?_)
    refine ite_congr rfl (fun _ => rfl) (fun _ => ?_)
    refine ite_congr rfl (fun _ => rfl) (fun _ => ?_)
    refine ite_congr rfl (fun _ => rfl) (fun _ => ?_)
    refine ite_congr rfl (fun _ => rfl) (fun _ => ?_)
    refine ite_congr rfl (fun _ => rfl) (fun _ => ?_)
    refine ite_congr rfl (fun _ => rfl) (fun _ => ?_)
    refine ite_congr rfl (fun _ => rfl) (fun _ => ?_)
    refine ite_congr rfl (fun _ => rfl) (fun _ => ?_)
    refine ite_congr rfl (fun _ => rfl) (fun _ => ?_)
    refine ite_congr rfl (fun _ => rfl) (fun _ => ?_)
    refine ite_congr rfl (fun _ => rfl) (fun _ => ?_)
    refine ite_congr rfl (fun _ => rfl) (fun _ => ?_)
    refine ite_congr rfl (fun _ => rfl) (fun _ => ?_)
    refine ite_congr rfl (fun _ => rfl) (fun _ => ?_)
    refine ite_congr rfl (fun _ => rfl) (fun _ => ?_)
    refine ite_congr rfl (fun _ => rfl) (fun _ => ?_)
    refine ite_congr rfl (fun _ => rfl) (fun _ => ?_)
    rfl
theorem gE_p_2_39 {cI cR cM cD : ClassId} {ad : gA} {x : gX} {y : gY} {a : Int} (k1 i1 : Int) : gE cI cR cM cD ad (xU x 39 0 0 a) y k1 i1 = if k1 = 2 ∧ i1 = 0 then .inr (2, [.ref (ad 25 (x 38 0 0)), .ref (ad 25 (x 39 0 0))].set 1 (.ref (ad 25 a))) else gE cI cR cM cD ad x y k1 i1 := by
  by_cases hk : k1 = 2
  · subst hk
    show gE2 cI cR cM cD ad (xU x 39 0 0 a) y i1 = if 2 = 2 ∧ i1 = 0 then .inr (2, [.ref (ad 25 (x 38 0 0)), .ref (ad 25 (x 39 0 0))].set 1 (.ref (ad 25 a))) else gE2 cI cR cM cD ad x y i1
    by_cases h2 : i1 = 0
    · rw [h2, if_pos ⟨rfl, rfl⟩]
      simp [gE2, xU]
    · rw [if_neg (fun q => h2 q.2)]
      simp [gE2, xU, h2]
  · rw [if_neg (fun q => hk q.1)]
    unfold gE
    refine ite_congr rfl (fun _ => rfl) (fun _ => ?_)
    refine ite_congr rfl (fun _ => rfl) (fun _ => ?_)
    refine ite_congr rfl (fun h => absurd h hk) (fun _ => ?_)
    refine ite_congr rfl (fun _ => rfl) (fun _ => ?_)
    refine ite_congr rfl (fun _ => rfl) (fun _ => ?_)
    refine ite_congr rfl (fun _ => rfl) (fun _ => ?_)
    refine ite_congr rfl (fun _ => rfl) (fun _ => ?_)
    refine ite_congr rfl (fun _ => rfl) (fun _ => ?_)
    refine ite_congr rfl (fun _ => rfl) (fun _ => ?_)
    refine ite_congr rfl (fun _ => rfl) (fun _ => ?_)
    refine ite_congr rfl (fun _ => rfl) (fun _ => ?_)
    refine ite_congr rfl (fun _ => rfl) (fun _ => ?_)
    refine ite_congr rfl (fun _ => rfl) (fun _ => ?_)
    refine ite_congr rfl (fun _ => rfl) (fun _ => ?_)
    refine ite_congr rfl (fun _ => rfl) (fun _ => ?_)
    refine ite_congr rfl (fun _ => rfl) (fun _ => ?_)
    refine ite_congr rfl (fun _ => rfl) (fun _ => ?_)
    refine ite_congr rfl (fun _ => rfl) (fun _ => ?_)
    refine ite_congr rfl (fun _ => rfl) (fun _ => ?_)
    refine ite_congr rfl (fun _ => rfl) (fun _ => ?_)
    refine ite_congr rfl (fun _ => rfl) (fun _ => ?_)
    refine ite_congr rfl (fun _ => rfl) (fun _ => ?_)
    rfl
theorem gE_p_3_1 {cI cR cM cD : ClassId} {ad : gA} {x : gX} {y : gY} {i a : Int} (k1 i1 : Int) : gE cI cR cM cD ad (xU x 1 i 0 a) y k1 i1 = if k1 = 3 ∧ i1 = i then .inr (3, [.int (J (x 1 i 0)), .int (J (x 2 i 0)), .int (J (x 3 i 0)), .int (J (x 4 i 0)), .int (J (x 5 i 0)), .int (J (x 6 i 0)), .int (J (x 7 i 0))].set 0 (.int (J a))) else gE cI cR cM cD ad x y k1 i1 := by
  by_cases hk : k1 = 3
  · subst hk
    show gE3 cI cR cM cD ad (xU x 1 i 0 a) y i1 = if 3 = 3 ∧ i1 = i then .inr (3, [.int (J (x 1 i 0)), .int (J (x 2 i 0)), .int (J (x 3 i 0)), .int (J (x 4 i 0)), .int (J (x 5 i 0)), .int (J (x 6 i 0)), .int (J (x 7 i 0))].set 0 (.int (J a))) else gE3 cI cR cM cD ad x y i1
    by_cases h2 : i1 = i
    · rw [h2, if_pos ⟨rfl, rfl⟩]
      simp [gE3, xU]
    · rw [if_neg (fun q => h2 q.2)]
      simp [gE3, xU, h2]
  · rw [if_neg (fun q => hk q.1)]
    unfold gE
    refine ite_congr rfl (fun _ => rfl) (fun _ => ?_)
    refine ite_congr rfl (fun _ => rfl) (fun _ => ?_)
    refine ite_congr rfl (fun _ => rfl) (fun _ => ?_)
    refine ite_congr rfl (fun h => absurd h hk) (fun _ => ?_)
    refine ite_congr rfl (fun _ => rfl) (fun _ => ?_)
    refine ite_congr rfl (fun _ => rfl) (fun _ => ?_)
    refine ite_congr rfl (fun _ => rfl) (fun _ => ?_)
    refine ite_congr rfl (fun _ => rfl) (fun _ => ?_)
    refine ite_congr rfl (fun _ => rfl) (fun _ => ?_)
    refine ite_congr rfl (fun _ => rfl) (fun _ => ?_)
    refine ite_congr rfl (fun _ => rfl) (fun _ => ?_)
    refine ite_congr rfl (fun _ => rfl) (fun _ => ?_)
    refine ite_congr rfl (fun _ => rfl) (fun _ => ?_)
    refine ite_congr rfl (fun _ => rfl) (fun _ => ?_)
    refine ite_congr rfl (fun _ => rfl) (fun _ => ?_)
    refine ite_congr rfl (fun _ => rfl) (fun _ => ?_)
    refine ite_congr rfl (fun _ => rfl) (fun _ => ?_)
    refine ite_congr rfl (fun _ => rfl) (fun _ => ?_)
    refine ite_congr rfl (fun _ => rfl) (fun _ => ?_)
    refine ite_congr rfl (fun _ => rfl) (fun _ => ?_)
    refine ite_congr rfl (fun _ => rfl) (fun _ => ?_)
    refine ite_congr rfl (fun _ => rfl) (fun _ => ?_)
    rfl
theorem gE_p_3_2 {cI cR cM cD : ClassId} {ad : gA} {x : gX} {y : gY} {i a : Int} (k1 i1 : Int) : gE cI cR cM cD ad (xU x 2 i 0 a) y k1 i1 = if k1 = 3 ∧ i1 = i then .inr (3, [.int (J (x 1 i 0)), .int (J (x 2 i 0)), .int (J (x 3 i 0)), .int (J (x 4 i 0)), .int (J (x 5 i 0)), .int (J (x 6 i 0)), .int (J (x 7 i 0))].set 1 (.int (J a))) else gE cI cR cM cD ad x y k1 i1 := by
  by_cases hk : k1 = 3
  · subst hk
    show gE3 cI cR cM cD ad (xU x 2 i 0 a) y i1 = if 3 = 3 ∧ i1 = i then .inr (3, [.int (J (x 1 i 0)), .int (J (x 2 i 0)), .int (J (x 3 i 0)), .int (J (x 4 i 0)), .int (J (x 5 i 0)), .int (J (x 6 i 0)), .int (J (x 7 i 0))].set 1 (.int (J a))) else gE3 cI cR cM cD ad x y i1
    by_cases h2 : i1 = i
    · rw [h2, if_pos ⟨rfl, rfl⟩]
      simp [gE3, xU]
    · rw [if_neg (fun q => h2 q.2)]
      simp [gE3, xU, h2]
  · rw [if_neg (fun q => hk q.1)]
    unfold gE
    refine ite_congr rfl (fun _ => rfl) (fun _ => ?_)
    refine ite_congr rfl (fun _ => rfl) (fun _ => ?_)
    refine ite_congr rfl (fun _ => rfl) (fun _ => ?_)
    refine ite_congr rfl (fun h => absurd h hk) (fun _ => ?_)
    refine ite_congr rfl (fun _ => rfl) (fun _ => ?_)
    refine ite_congr rfl (fun _ => rfl) (fun _ => ?_)
    refine ite_congr rfl (fun _ => rfl) (fun _ => ?_)
    refine ite_congr rfl (fun _ => rfl) (fun _ => ?_)
    refine ite_congr rfl (fun _ => rfl) (fun _ => ?_)
    refine ite_congr rfl (fun _ => rfl) (fun _ => ?_)
    refine ite_congr rfl (fun _ => rfl) (fun _ => ?_)
    refine ite_congr rfl (fun _ => rfl) (fun _ => ?_)
    refine ite_congr rfl (fun _ => rfl) (fun _ => ?_)
    refine ite_congr rfl (fun _ => rfl) (fun _ => ?_)
    refine ite_congr rfl (fun _ => rfl) (fun _ => ?_)
    refine ite_congr rfl (fun _ => rfl) (fun _ => ?_)
    refine ite_congr rfl (fun _ => rfl) (fun _ => ?_)
    refine ite_congr rfl (fun _ => rfl) (fun _ => ?_)
    refine ite_congr rfl (fun _ => rfl) (fun _ => ?_)
    refine ite_congr rfl (fun _ => rfl) (fun _ => ?_)
    refine ite_congr rfl (fun _ => rfl) (fun _ => ?_)
    refine ite_congr rfl (fun _ => rfl) (fun _ => ?_)
    rfl
theorem gE_p_3_3 {cI cR cM cD : ClassId} {ad : gA} {x : gX} {y : gY} {i a : Int} (k1 i1 : Int) : gE cI cR cM cD ad (xU x 3 i 0 a) y k1 i1 = if k1 = 3 ∧ i1 = i then .inr (3, [.int (J (x 1 i 0)), .int (J (x 2 i 0)), .int (J (x 3 i 0)), .int (J (x 4 i 0)), .int (J (x 5 i 0)), .int (J (x 6 i 0)), .int (J (x 7 i 0))].set 2 (.int (J a))) else gE cI cR cM cD ad x y k1 i1 := by
  by_cases hk : k1 = 3
  · subst hk
    show gE3 cI cR cM cD ad (xU x 3 i 0 a) y i1 = if 3 = 3 ∧ i1 = i then .inr (3, [.int (J (x 1 i 0)), .int (J (x 2 i 0)), .int (J (x 3 i 0)), .int (J (x 4 i 0)), .int (J (x 5 i 0)), .int (J (x 6 i 0)), .int (J (x 7 i 0))].set 2 (.int (J a))) else gE3 cI cR cM cD ad x y i1
    by_cases h2 : i1 = i
    · rw [h2, if_pos ⟨rfl, rfl⟩]
      simp [gE3, xU]
    · rw [if_neg (fun q => h2 q.2)]
      simp [gE3, xU, h2]
  · rw [if_neg (fun q => hk q.1)]
    unfold gE
    refine ite_congr rfl (fun _ => rfl) (fun _ => ?_)
    refine ite_congr rfl (fun _ => rfl) (fun _ => ?_)
    refine ite_congr rfl (fun _ => rfl) (fun _ => ?_)
    refine ite_congr rfl (fun h => absurd h hk) (fun _ => ?_)
    refine ite_congr rfl (fun _ => rfl) (fun _ => ?_)
    refine ite_congr rfl (fun _ => rfl) (fun _ => ?_)
    refine ite_congr rfl (fun _ => rfl) (fun _ => ?_)
    refine ite_congr rfl (fun _ => rfl) (fun _ => ?_)
    refine ite_congr rfl (fun _ => rfl) (fun _ => ?_)
    refine ite_congr rfl (fun _ => rfl) (fun _ => ?_)
    refine ite_congr rfl (fun _ => rfl) (fun _ => ?_)
    refine ite_congr rfl (fun _ => rfl) (fun _ => ?_)
    refine ite_congr rfl (fun _ => rfl) (fun _ => ?_)
    refine ite_congr rfl (fun _ => rfl) (fun _ => ?_)
    refine ite_congr rfl (fun _ => rfl) (fun _ => ?_)
    refine ite_congr rfl (fun _ => rfl) (fun _ => ?_)
    refine ite_congr rfl (fun _ => rfl) (fun _ => ?_)
    refine ite_congr rfl (fun _ => rfl) (fun _ => ?_)
    refine ite_congr rfl (fun _ => rfl) (fun _ => ?_)
    refine ite_congr rfl (fun _ => rfl) (fun _ => ?_)
    refine ite_congr rfl (fun _ => rfl) (fun _ => ?_)
    refine ite_congr rfl (fun _ => rfl) (fun _ => ?_)
    rfl
theorem gE_p_3_4 {cI cR cM cD : ClassId} {ad : gA} {x : gX} {y : gY} {i a : Int} (k1 i1 : Int) : gE cI cR cM cD ad (xU x 4 i 0 a) y k1 i1 = if k1 = 3 ∧ i1 = i then .inr (3, [.int (J (x 1 i 0)), .int (J (x 2 i 0)), .int (J (x 3 i 0)), .int (J (x 4 i 0)), .int (J (x 5 i 0)), .int (J (x 6 i 0)), .int (J (x 7 i 0))].set 3 (.int (J a))) else gE cI cR cM cD ad x y k1 i1 := by
  by_cases hk : k1 = 3
  · subst hk
    show gE3 cI cR cM cD ad (xU x 4 i 0 a) y i1 = if 3 = 3 ∧ i1 = i then .inr (3, [.int (J (x 1 i 0)), .int (J (x 2 i 0)), .int (J (x 3 i 0)), .int (J (x 4 i 0)), .int (J (x 5 i 0)), .int (J (x 6 i 0)), .int (J (x 7 i 0))].set 3 (.int (J a))) else gE3 cI cR cM cD ad x y i1
    by_cases h2 : i1 = i
    · rw [h2, if_pos ⟨rfl, rfl⟩]
      simp [gE3, xU]
    · rw [if_neg (fun q => h2 q.2)]
      simp [gE3, xU, h2]
  · rw [if_neg (fun q => hk q.1)]
    unfold gE
    refine ite_congr rfl (fun _ => rfl) (fun _ => ?_)
    refine ite_congr rfl (fun _ => rfl) (fun _ => ?_)
    refine ite_congr rfl (fun _ => rfl) (fun _ => ?_)
    refine ite_congr rfl (fun h => absurd h hk) (fun _ => ?_)
    refine ite_congr rfl (fun _ => rfl) (fun _ => ?_)
    refine ite_congr rfl (fun _ => rfl) (fun _ => ?_)
    refine ite_congr rfl (fun _ => rfl) (fun _ => ?_)
    refine ite_congr rfl (fun _ => rfl) (fun _ => ?_)
    refine ite_congr rfl (fun _ => rfl) (fun _ => ?_)
    refine ite_congr rfl (fun _ => rfl) (fun _ => ?_)
    refine ite_congr rfl (fun _ => rfl) (fun _ => ?_)
    refine ite_congr rfl (fun _ => rfl) (fun _ => ?_)
    refine ite_congr rfl (fun _ => rfl) (fun _ => ?_)
    refine ite_congr rfl (fun _ => rfl) (fun _ => ?_)
    refine ite_congr rfl (fun _ => rfl) (fun _ => ?_)
    refine ite_congr rfl (fun _ => rfl) (fun _ => ?_)
    refine ite_congr rfl (fun _ => rfl) (fun _ => ?_)
    refine ite_congr rfl (fun _ => rfl) (fun _ => ?_)
    refine ite_congr rfl (fun _ => rfl) (fun _ => ?_)
    refine ite_congr rfl (fun _ => rfl) (fun _ => ?_)
    refine ite_congr rfl (fun _ => rfl) (fun _ => ?_)
    refine ite_congr rfl (fun _ => rfl) (fun _ => ?_)
    rfl
theorem gE_p_3_5 {cI cR cM cD : ClassId} {ad : gA} {x : gX} {y : gY} {i a : Int} (k1 i1 : Int) : gE cI cR cM cD ad (xU x 5 i 0 a) y k1 i1 = if k1 = 3 ∧ i1 = i then .inr (3, [.int (J (x 1 i 0)), .int (J (x 2 i 0)), .int (J (x 3 i 0)), .int (J (x 4 i 0)), .int (J (x 5 i 0)), .int (J (x 6 i 0)), .int (J (x 7 i 0))].set 4 (.int (J a))) else gE cI cR cM cD ad x y k1 i1 := by
  by_cases hk : k1 = 3
  · subst hk
    show gE3 cI cR cM cD ad (xU x 5 i 0 a) y i1 = if 3 = 3 ∧ i1 = i then .inr (3, [.int (J (x 1 i 0)), .int (J (x 2 i 0)), .int (J (x 3 i 0)), .int (J (x 4 i 0)), .int (J (x 5 i 0)), .int (J (x 6 i 0)), .int (J (x 7 i 0))].set 4 (.int (J a))) else gE3 cI cR cM cD ad x y i1
    by_cases h2 : i1 = i
    · rw [h2, if_pos ⟨rfl, rfl⟩]
      simp [gE3, xU]
    · rw [if_neg (fun q => h2 q.2)]
      simp [gE3, xU, h2]
  · rw [if_neg (fun q => hk q.1)]
    unfold gE
    refine ite_congr rfl (fun _ => rfl) (fun _ => ?_)
    refine ite_congr rfl (fun _ => rfl) (fun _ => ?_)
    refine ite_congr rfl (fun _ => rfl) (fun _ => ?_)
    refine ite_congr rfl (fun h => absurd h hk) (fun _ => ?_)
    refine ite_congr rfl (fun _ => rfl) (fun _ => ?_)
    refine ite_congr rfl (fun _ => rfl) (fun _ => ?_)
    refine ite_congr rfl (fun _ => rfl) (fun _ => ?_)
    refine ite_congr rfl (fun _ => rfl) (fun _ => ?_)
    refine ite_congr rfl (fun _ => rfl) (fun _ => ?_)
    refine ite_congr rfl (fun _ => rfl) (fun _ => ?_)
    refine ite_congr rfl (fun _ => rfl) (fun _ => ?_)
    refine ite_congr rfl (fun _ => rfl) (fun _ => ?_)
    refine ite_congr rfl (fun _ => rfl) (fun _ => ?_)
    refine ite_congr rfl (fun _ => rfl) (fun _ => ?_)
    refine ite_congr rfl (fun _ => rfl) (fun _ => ?_)
    refine ite_congr rfl (fun _ => rfl) (fun _ => ?_)
    refine ite_congr rfl (fun _ => rfl) (fun _ => ?_)
    refine ite_congr rfl (fun _ => rfl) (fun _ => ?_)
    refine ite_congr rfl (fun _ => rfl) (fun _ => ?_)
    refine ite_congr rfl (fun _ => rfl) (fun _ => ?_)
    refine ite_congr rfl (fun _ => rfl) (fun _ => ?_)
    refine ite_congr rfl (fun _ => rfl) (fun _ => ?_)
    rfl
theorem gE_p_3_6 {cI cR cM cD : ClassId} {ad : gA} {x : gX} {y : gY} {i a : Int} (k1 i1 : Int) : gE cI cR cM cD ad (xU x 6 i 0 a) y k1 i1 = if k1 = 3 ∧ i1 = i then .inr (3, [.int (J (x 1 i 0)), .int (J (x 2 i 0)), .int (J (x 3 i 0)), .int (J (x 4 i 0)), .int (J (x 5 i 0)), .int (J (x 6 i 0)), .int (J (x 7 i 0))].set 5 (.int (J a))) else gE cI cR cM cD ad x y k1 i1 := by
  by_cases hk : k1 = 3
  · subst hk
    show gE3 cI cR cM cD ad (xU x 6 i 0 a) y i1 = if 3 = 3 ∧ i1 = i then .inr (3, [.int (J (x 1 i 0)), .int (J (x 2 i 0)), .int (J (x 3 i 0)), .int (J (x 4 i 0)), .int (J (x 5 i 0)), .int (J (x 6 i 0)), .int (J (x 7 i 0))].set 5 (.int (J a))) else gE3 cI cR cM cD ad x y i1
    by_cases h2 : i1 = i
    · rw [h2, if_pos ⟨rfl, rfl⟩]
      simp [gE3, xU]
    · rw [if_neg (fun q => h2 q.2)]
      simp [gE3, xU, h2]
  · rw [if_neg (fun q => hk q.1)]
    unfold gE
    refine ite_congr rfl (fun _ => rfl) (fun _ => ?_)
    refine ite_congr rfl (fun _ => rfl) (fun _ => ?_)
    refine ite_congr rfl (fun _ => rfl) (fun _ => ?_)
    refine ite_congr rfl (fun h => absurd h hk) (fun _ => ?_)
    refine ite_congr rfl (fun _ => rfl) (fun _ => ?_)
    refine ite_congr rfl (fun _ => rfl) (fun _ => ?_)
    refine ite_congr rfl (fun _ => rfl) (fun _ => ?_)
    refine ite_congr rfl (fun _ => rfl) (fun _ => ?_)
    refine ite_congr rfl (fun _ => rfl) (fun _ => ?_)
    refine ite_congr rfl (fun _ => rfl) (fun _ => ?_)
    refine ite_congr rfl (fun _ => rfl) (fun _ => ?_)
    refine ite_congr rfl (fun _ => rfl) (fun _ => ?_)
    refine ite_congr rfl (fun _ => rfl) (fun _ => ?_)
    refine ite_congr rfl (fun _ => rfl) (fun _ => ?_)
    refine ite_congr rfl (fun _ => rfl) (fun _ => ?_)
    refine ite_congr rfl (fun _ => rfl) (fun _ => ?_)
    refine ite_congr rfl (fun _ => rfl) (fun _ => ?_)
    refine ite_congr rfl (fun _ => rfl) (fun _ => ?_)
    refine ite_congr rfl (fun _ => rfl) (fun _ => ?_)
    refine ite_congr rfl (fun _ => rfl) (fun _ => ?_)
    refine ite_congr rfl (fun _ => rfl) (fun _ => ?_)
    refine ite_congr rfl (fun _ => rfl) (fun _ => ?_)
    rfl
theorem gE_p_3_7 {cI cR cM cD : ClassId} {ad : gA} {x : gX} {y : gY} {i a : Int} (k1 i1 : Int) : gE cI cR cM cD ad (xU x 7 i 0 a) y k1 i1 = if k1 = 3 ∧ i1 = i then .inr (3, [.int (J (x 1 i 0)), .int (J (x 2 i 0)), .int (J (x 3 i 0)), .int (J (x 4 i 0)), .int (J (x 5 i 0)), .int (J (x 6 i 0)), .int (J (x 7 i 0))].set 6 (.int (J a))) else gE cI cR cM cD ad x y k1 i1 := by
  by_cases hk : k1 = 3
  · subst hk
    show gE3 cI cR cM cD ad (xU x 7 i 0 a) y i1 = if 3 = 3 ∧ i1 = i then .inr (3, [.int (J (x 1 i 0)), .int (J (x 2 i 0)), .int (J (x 3 i 0)), .int (J (x 4 i 0)), .int (J (x 5 i 0)), .int (J (x 6 i 0)), .int (J (x 7 i 0))].set 6 (.int (J a))) else gE3 cI cR cM cD ad x y i1
    by_cases h2 : i1 = i
    · rw [h2, if_pos ⟨rfl, rfl⟩]
      simp [gE3, xU]
    · rw [if_neg (fun q => h2 q.2)]
      simp [gE3, xU, h2]
  · rw [if_neg (fun q => hk q.1)]
    unfold gE
    refine ite_congr rfl (fun _ => rfl) (fun _ => ?_)
    refine ite_congr rfl (fun _ => rfl) (fun _ => ?_)
    refine ite_congr rfl (fun _ => rfl) (fun _ => ?_)
    refine ite_congr rfl (fun h => absurd h hk) (fun _ => ?_)
    refine ite_congr rfl (fun _ => rfl) (fun _ => ?_)
    refine ite_congr rfl (fun _ => rfl) (fun _ => ?_)
    refine ite_congr rfl (fun _ => rfl) (fun _ => ?_)
    refine ite_congr rfl (fun _ => rfl) (fun _ => ?_)
    refine ite_congr rfl (fun _ => rfl) (fun _ => ?_)
    refine ite_congr rfl (fun _ => rfl) (fun _ => ?_)
    refine ite_congr rfl (fun _ => rfl) (fun _ => ?_)
    refine ite_congr rfl (fun _ => rfl) (fun _ => ?_)
    refine ite_congr rfl (fun _ => rfl) (fun _ => ?_)
    refine ite_congr rfl (fun _ => rfl) (fun _ => ?_)
    refine ite_congr rfl (fun _ => rfl) (fun _ => ?_)
    refine ite_congr rfl (fun _ => rfl) (fun _ => ?_)
    refine ite_congr rfl (fun _ => rfl) (fun _ => ?_)
    refine ite_congr rfl (fun _ => rfl) (fun _ => ?_)
    refine ite_congr rfl (fun _ => rfl) (fun _ => ?_)
    refine ite_congr rfl (fun _ => rfl) (fun _ => ?_)
    refine ite_congr rfl (fun _ => rfl) (fun _ => ?_)
    refine ite_congr rfl (fun _ => rfl) (fun _ => ?_)
    rfl
theorem gE_p_4_34 {cI cR cM cD : ClassId} {ad : gA} {x : gX} {y : gY} {a : Int} (k1 i1 : Int) : gE cI cR cM cD ad (xU x 34 0 0 a) y k1 i1 = if k1 = 4 ∧ i1 = 0 then .inr (4, [.ref (ad 24 0), .int (J (x 34 0 0))].set 1 (.int (J a))) else gE cI cR cM cD ad x y k1 i1 := by
  by_cases hk : k1 = 4
  · subst hk
    show gE4 cI cR cM cD ad (xU x 34 0 0 a) y i1 = if 4 = 4 ∧ i1 = 0 then .inr (4, [.ref (ad 24 0), .int (J (x 34 0 0))].set 1 (.int (J a))) else gE4 cI cR cM cD ad x y i1
    by_cases h2 : i1 = 0
    · rw [h2, if_pos ⟨rfl, rfl⟩]
      simp [gE4, xU]
    · rw [if_neg (fun q => h2 q.2)]
      simp [gE4, xU, h2]
  · rw [if_neg (fun q => hk q.1)]
    unfold gE
    refine ite_congr rfl (fun _ => rfl) (fun _ => ?_)
    refine ite_congr rfl (fun _ => rfl) (fun _ => ?_)
    refine ite_congr rfl (fun _ => rfl) (fun _ => ?_)
    refine ite_congr rfl (fun _ => rfl) (fun _ => ?_)
    refine ite_congr rfl (fun h => absurd h hk) (fun _ => ?_)
    refine ite_congr rfl (fun _ => rfl) (fun _ => ?_)
    refine ite_congr rfl (fun _ => rfl) (fun _ => ?_)
    refine ite_congr rfl (fun _ => rfl) (fun _ => ?_)
    refine ite_congr rfl (fun _ => rfl) (fun _ => ?_)
    refine ite_congr rfl (fun _ => rfl) (fun _ => ?_)
    refine ite_congr rfl (fun _ => rfl) (fun _ => ?_)
    refine ite_congr rfl (fun _ => rfl) (fun _ => ?_)
    refine ite_congr rfl (fun _ => rfl) (fun _ => ?_)
    refine ite_congr rfl (fun _ => rfl) (fun _ => ?_)
    refine ite_congr rfl (fun _ => rfl) (fun _ => ?_)
    refine ite_congr rfl (fun _ => rfl) (fun _ => ?_)
    refine ite_congr rfl (fun _ => rfl) (fun _ => ?_)
    refine ite_congr rfl (fun _ => rfl) (fun _ => ?_)
    refine ite_congr rfl (fun _ => rfl) (fun _ => ?_)
    refine ite_congr rfl (fun _ => rfl) (fun _ => ?_)
    refine ite_congr rfl (fun _ => rfl) (fun _ => ?_)
    refine ite_congr rfl (fun _ => rfl) (fun _ => ?_)
    rfl
theorem gE_p_5_35 {cI cR cM cD : ClassId} {ad : gA} {x : gX} {y : gY} {a : Int} (k1 i1 : Int) : gE cI cR cM cD ad (xU x 35 0 0 a) y k1 i1 = if k1 = 5 ∧ i1 = 0 then .inr (5, [.ref (ad 23 0), .int (J (x 35 0 0)), .int (J (x 36 0 0)), .int (J (x 37 0 0))].set 1 (.int (J a))) else gE cI cR cM cD ad x y k1 i1 := by
  by_cases hk : k1 = 5
  · subst hk
    show gE5 cI cR cM cD ad (xU x 35 0 0 a) y i1 = if 5 = 5 ∧ i1 = 0 then .inr (5, [.ref (ad 23 0), .int (J (x 35 0 0)), .int (J (x 36 0 0)), .int (J (x 37 0 0))].set 1 (.int (J a))) else gE5 cI cR cM cD ad x y i1
    by_cases h2 : i1 = 0
    · rw [h2, if_pos ⟨rfl, rfl⟩]
      simp [gE5, xU]
    · rw [if_neg (fun q => h2 q.2)]
      simp [gE5, xU, h2]
  · rw [if_neg (fun q => hk q.1)]
    unfold gE
    refine ite_congr rfl (fun _ => rfl) (fun _ => ?_)
    refine ite_congr rfl (fun _ => rfl) (fun _ => ?_)
    refine ite_congr rfl (fun _ => rfl) (fun _ => ?_)
    refine ite_congr rfl (fun _ => rfl) (fun _ => ?_)
    refine ite_congr rfl (fun _ => rfl) (fun _ => ?_)
    refine ite_congr rfl (fun h => absurd h hk) (fun _ => ?_)
    refine ite_congr rfl (fun _ => rfl) (fun _ => ?_)
    refine ite_congr rfl (fun _ => rfl) (fun _ => ?_)
    refine ite_congr rfl (fun _ => rfl) (fun _ => ?_)
    refine ite_congr rfl (fun _ => rfl) (fun _ => ?_)
    refine ite_congr rfl (fun _ => rfl) (fun _ => ?_)
    refine ite_congr rfl (fun _ => rfl) (fun _ => ?_)
    refine ite_congr rfl (fun _ => rfl) (fun _ => ?_)
    refine ite_congr rfl (fun _ => rfl) (fun _ => ?_)
    refine ite_congr rfl (fun _ => rfl) (fun _ => ?_)
    refine ite_congr rfl (fun _ => rfl) (fun _ => ?_)
    refine ite_congr rfl (fun _ => rfl) (fun _ => ?_)
    refine ite_congr rfl (fun _ => rfl) (fun _ => ?_)
    refine ite_congr rfl (fun _ => rfl) (fun _ => ?_)
    refine ite_congr rfl (fun _ => rfl) (fun _ => ?_)
    refine ite_congr rfl (fun _ => rfl) (fun _ => ?_)
    refine ite_congr rfl (fun _ => rfl) (fun _ => ?_)
    rfl
theorem gE_p_5_36 {cI cR cM cD : ClassId} {ad : gA} {x : gX} {y : gY} {a : Int} (k1 i1 : Int) : gE cI cR cM cD ad (xU x 36 0 0 a) y k1 i1 = if k1 = 5 ∧ i1 = 0 then .inr (5, [.ref (ad 23 0), .int (J (x 35 0 0)), .int (J (x 36 0 0)), .int (J (x 37 0 0))].set 2 (.int (J a))) else gE cI cR cM cD ad x y k1 i1 := by
  by_cases hk : k1 = 5
  · subst hk
    show gE5 cI cR cM cD ad (xU x 36 0 0 a) y i1 = if 5 = 5 ∧ i1 = 0 then .inr (5, [.ref (ad 23 0), .int (J (x 35 0 0)), .int (J (x 36 0 0)), .int (J (x 37 0 0))].set 2 (.int (J a))) else gE5 cI cR cM cD ad x y i1
    by_cases h2 : i1 = 0
    · rw [h2, if_pos ⟨rfl, rfl⟩]
      simp [gE5, xU]
    · rw [if_neg (fun q => h2 q.2)]
      simp [gE5, xU, h2]
  · rw [if_neg (fun q => hk q.1)]
    unfold gE
    refine ite_congr rfl (fun _ => rfl) (fun _ => ?_)
    refine ite_congr rfl (fun _ => rfl) (fun _ => ?_)
    refine ite_congr rfl (fun _ => rfl) (fun _ => ?_)
    refine ite_congr rfl (fun _ => rfl) (fun _ => ?_)
    refine ite_congr rfl (fun _ => rfl) (fun _ => ?_)
    refine ite_congr rfl (fun h => absurd h hk) (fun _ => ?_)
    refine ite_congr rfl (fun _ => rfl) (fun _ => ?_)
    refine ite_congr rfl (fun _ => rfl) (fun _ => ?_)
    refine ite_congr rfl (fun _ => rfl) (fun _ => ?_)
    refine ite_congr rfl (fun _ => rfl) (fun _ => ?_)
    refine ite_congr rfl (fun _ => rfl) (fun _ => ?_)
    refine ite_congr rfl (fun _ => rfl) (fun _ => ?_)
    refine ite_congr rfl (fun _ => rfl) (fun _ => ?_)
    refine ite_congr rfl (fun _ => rfl) (fun _ => ?_)
    refine ite_congr rfl (fun _ => rfl) (fun _ => ?_)
    refine ite_congr rfl (fun _ => rfl) (fun _ => ?_)
    refine ite_congr rfl (fun _ => rfl) (fun _ => ?_)
    refine ite_congr rfl (fun _ => rfl) (fun _ => ?_)
    refine ite_congr rfl (fun _ => rfl) (fun _ => ?_)
    refine ite_congr rfl (fun _ => rfl) (fun _ => ?_)
    refine ite_congr rfl (fun _ => rfl) (fun _ => ?_)
    refine ite_congr rfl (fun _ => rfl) (fun _ => ?_)
    rfl
theorem gE_p_5_37 {cI cR cM cD : ClassId} {ad : gA} {x : gX} {y : gY} {a : Int} (k1 i1 : Int) : gE cI cR cM cD ad (xU x 37 0 0 a) y k1 i1 = if k1 = 5 ∧ i1 = 0 then .inr (5, [.ref (ad 23 0), .int (J (x 35 0 0)), .int (J (x 36 0 0)), .int (J (x 37 0 0))].set 3 (.int (J a))) else gE cI cR cM cD ad x y k1 i1 := by
  by_cases hk : k1 = 5
  · subst hk
    show gE5 cI cR cM cD ad (xU x 37 0 0 a) y i1 = if 5 = 5 ∧ i1 = 0 then .inr (5, [.ref (ad 23 0), .int (J (x 35 0 0)), .int (J (x 36 0 0)), .int (J (x 37 0 0))].set 3 (.int (J a))) else gE5 cI cR cM cD ad x y i1
    by_cases h2 : i1 = 0
    · rw [h2, if_pos ⟨rfl, rfl⟩]
      simp [gE5, xU]
    · rw [if_neg (fun q => h2 q.2)]
      simp [gE5, xU, h2]
  · rw [if_neg (fun q => hk q.1)]
    unfold gE
    refine ite_congr rfl (fun _ => rfl) (fun _ => ?_)
    refine ite_congr rfl (fun _ => rfl) (fun _ => ?_)
    refine ite_congr rfl (fun _ => rfl) (fun _ => ?_)
    refine ite_congr rfl (fun _ => rfl) (fun _ => ?_)
    refine ite_congr rfl (fun _ => rfl) (fun _ => ?_)
    refine ite_congr rfl (fun h => absurd h hk) (fun _ => ?_)
    refine ite_congr rfl (fun _ => rfl) (fun _ => ?_)
    refine ite_congr rfl (fun _ => rfl) (fun _ => ?_)
    refine ite_congr rfl (fun _ => rfl) (fun _ => ?_)
    refine ite_congr rfl (fun _ => rfl) (fun _ => ?_)
    refine ite_congr rfl (fun _ => rfl) (fun _ => ?_)
    refine ite_congr rfl (fun _ => rfl) (fun _ => ?_)
    refine ite_congr rfl (fun _ => rfl) (fun _ => ?_)
    refine ite_congr rfl (fun _ => rfl) (fun _ => ?_)
    refine ite_congr rfl (fun _ => rfl) (fun _ => ?_)
    refine ite_congr rfl (fun _ => rfl) (fun _ => ?_)
    refine ite_congr rfl (fun _ => rfl) (fun _ => ?_)
    refine ite_congr rfl (fun _ => rfl) (fun _ => ?_)
    refine ite_congr rfl (fun _ => rfl) (fun _ => ?_)
    refine ite_congr rfl (fun _ => rfl) (fun _ => ?_)
    refine ite_congr rfl (fun _ => rfl) (fun _ => ?_)
    refine ite_congr rfl (fun _ => rfl) (fun _ => ?_)
    rfl
theorem gE_p_6_17 {cI cR cM cD : ClassId} {ad : gA} {x : gX} {y : gY} {i a : Int} (k1 i1 : Int) : gE cI cR cM cD ad (xU x 17 i 0 a) y k1 i1 = if k1 = 6 ∧ i1 = i then .inr (6, [.ref (ad 20 i), .int (J (x 17 i 0))].set 1 (.int (J a))) else gE cI cR cM cD ad x y k1 i1 := by
  by_cases hk : k1 = 6
  · subst hk
    show gE6 cI cR cM cD ad (xU x 17 i 0 a) y i1 = if 6 = 6 ∧ i1 = i then .inr (6, [.ref (ad 20 i), .int (J (x 17 i 0))].set 1 (.int (J a))) else gE6 cI cR cM cD ad x y i1
    by_cases h2 : i1 = i
    · rw [h2, if_pos ⟨rfl, rfl⟩]
      simp [gE6, xU]
    · rw [if_neg (fun q => h2 q.2)]
      simp [gE6, xU, h2]
  · rw [if_neg (fun q => hk q.1)]
    unfold gE
    refine ite_congr rfl (fun _ => rfl) (fun _ => ?_)
    refine ite_congr rfl (fun _ => rfl) (fun _ => ?_)
    refine ite_congr rfl (fun _ => rfl) (fun _ => ?_)
    refine ite_congr rfl (fun _ => rfl) (fun _ => ?_)
    refine ite_congr rfl (fun _ => rfl) (fun _ => ?_)
    refine ite_congr rfl (fun _ => rfl) (fun _ => ?_)
    refine ite_congr rfl (fun h => absurd h hk) (fun _ => ?_)
    refine ite_congr rfl (fun _ => rfl) (fun _ => ?_)
    refine ite_congr rfl (fun _ => rfl) (fun _ => ?_)
    refine ite_congr rfl (fun _ => rfl) (fun _ => ?_)
    refine ite_congr rfl (fun _ => rfl) (fun _ => ?_)
    refine ite_congr rfl (fun _ => rfl) (fun _ => ?_)
    refine ite_congr rfl (fun _ => rfl) (fun _ => ?_)
    refine ite_congr rfl (fun _ => rfl) (fun _ => ?_)
    refine ite_congr rfl (fun _ => rfl) (fun _ => ?_)
    refine ite_congr rfl (fun _ => rfl) (fun _ => ?_)
    refine ite_congr rfl (fun _ => rfl) (fun _ => ?_)
    refine ite_congr rfl (fun _ => rfl) (fun _ => ?_)
    refine ite_congr rfl (fun _ => rfl) (fun _ => ?_)
    refine ite_congr rfl (fun _ => rfl) (fun _ => ?_)
    refine ite_congr rfl (fun _ => rfl) (fun _ => ?_)
    refine ite_congr rfl (fun _ => rfl) (fun _ => ?_)
    rfl
theorem gE_p_7_18 {cI cR cM cD : ClassId} {ad : gA} {x : gX} {y : gY} {a : Int} (k1 i1 : Int) : gE cI cR cM cD ad (xU x 18 0 0 a) y k1 i1 = if k1 = 7 ∧ i1 = 0 then .inr (7, [.ref (ad 30 0), .ref (ad 31 0), .ref (ad 5 0), .ref (ad 0 0), .ref (ad 33 0), .ref (ad 4 0), .ref (ad 2 0), .ref (ad 26 0), .int (J (x 18 0 0)), .int (J (x 19 0 0)), .long (Lg (x 8 0 0)), .long (Lg (x 9 0 0))].set 8 (.int (J a))) else gE cI cR cM cD ad x y k1 i1 := by
  by_cases hk : k1 = 7
  · subst hk
    show gE7 cI cR cM cD ad (xU x 18 0 0 a) y i1 = if 7 = 7 ∧ i1 = 0 then .inr (7, [.ref (ad 30 0), .ref (ad 31 0), .ref (ad 5 0), .ref (ad 0 0), .ref (ad 33 0), .ref (ad 4 0), .ref (ad 2 0), .ref (ad 26 0), .int (J (x 18 0 0)), .int (J (x 19 0 0)), .long (Lg (x 8 0 0)), .long (Lg (x 9 0 0))].set 8 (.int (J a))) else gE7 cI cR cM cD ad x y i1
    by_cases h2 : i1 = 0
    · rw [h2, if_pos ⟨rfl, rfl⟩]
      simp [gE7, xU]
    · rw [if_neg (fun q => h2 q.2)]
      simp [gE7, xU, h2]
  · rw [if_neg (fun q => hk q.1)]
    unfold gE
    refine ite_congr rfl (fun _ => rfl) (fun _ => ?_)
    refine ite_congr rfl (fun _ => rfl) (fun _ => ?_)
    refine ite_congr rfl (fun _ => rfl) (fun _ => ?_)
    refine ite_congr rfl (fun _ => rfl) (fun _ => ?_)
    refine ite_congr rfl (fun _ => rfl) (fun _ => ?_)
    refine ite_congr rfl (fun _ => rfl) (fun _ => ?_)
    refine ite_congr rfl (fun _ => rfl) (fun _ => ?_)
    refine ite_congr rfl (fun h => absurd h hk) (fun _ => ?_)
    refine ite_congr rfl (fun _ => rfl) (fun _ => ?_)
    refine ite_congr rfl (fun _ => rfl) (fun _ => ?_)
    refine ite_congr rfl (fun _ => rfl) (fun _ => ?_)
    refine ite_congr rfl (fun _ => rfl) (fun _ => ?_)
    refine ite_congr rfl (fun _ => rfl) (fun _ => ?_)
    refine ite_congr rfl (fun _ => rfl) (fun _ => ?_)
    refine ite_congr rfl (fun _ => rfl) (fun _ => ?_)
    refine ite_congr rfl (fun _ => rfl) (fun _ => ?_)
    refine ite_congr rfl (fun _ => rfl) (fun _ => ?_)
    refine ite_congr rfl (fun _ => rfl) (fun _ => ?_)
    refine ite_congr rfl (fun _ => rfl) (fun _ => ?_)
    refine ite_congr rfl (fun _ => rfl) (fun _ => ?_)
    refine ite_congr rfl (fun _ => rfl) (fun _ => ?_)
    refine ite_congr rfl (fun _ => rfl) (fun _ => ?_)
    rfl
theorem gE_p_7_19 {cI cR cM cD : ClassId} {ad : gA} {x : gX} {y : gY} {a : Int} (k1 i1 : Int) : gE cI cR cM cD ad (xU x 19 0 0 a) y k1 i1 = if k1 = 7 ∧ i1 = 0 then .inr (7, [.ref (ad 30 0), .ref (ad 31 0), .ref (ad 5 0), .ref (ad 0 0), .ref (ad 33 0), .ref (ad 4 0), .ref (ad 2 0), .ref (ad 26 0), .int (J (x 18 0 0)), .int (J (x 19 0 0)), .long (Lg (x 8 0 0)), .long (Lg (x 9 0 0))].set 9 (.int (J a))) else gE cI cR cM cD ad x y k1 i1 := by
  by_cases hk : k1 = 7
  · subst hk
    show gE7 cI cR cM cD ad (xU x 19 0 0 a) y i1 = if 7 = 7 ∧ i1 = 0 then .inr (7, [.ref (ad 30 0), .ref (ad 31 0), .ref (ad 5 0), .ref (ad 0 0), .ref (ad 33 0), .ref (ad 4 0), .ref (ad 2 0), .ref (ad 26 0), .int (J (x 18 0 0)), .int (J (x 19 0 0)), .long (Lg (x 8 0 0)), .long (Lg (x 9 0 0))].set 9 (.int (J a))) else gE7 cI cR cM cD ad x y i1
    by_cases h2 : i1 = 0
    · rw [h2, if_pos ⟨rfl, rfl⟩]
      simp [gE7, xU]
    · rw [if_neg (fun q => h2 q.2)]
      simp [gE7, xU, h2]
  · rw [if_neg (fun q => hk q.1)]
    unfold gE
    refine ite_congr rfl (fun _ => rfl) (fun _ => ?_)
    refine ite_congr rfl (fun _ => rfl) (fun _ => ?_)
    refine ite_congr rfl (fun _ => rfl) (fun _ => ?_)
    refine ite_congr rfl (fun _ => rfl) (fun _ => ?_)
    refine ite_congr rfl (fun _ => rfl) (fun _ => ?_)
    refine ite_congr rfl (fun _ => rfl) (fun _ => ?_)
    refine ite_congr rfl (fun _ => rfl) (fun _ => ?_)
    refine ite_congr rfl (fun h => absurd h hk) (fun _ => ?_)
    refine ite_congr rfl (fun _ => rfl) (fun _ => ?_)
    refine ite_congr rfl (fun _ => rfl) (fun _ => ?_)
    refine ite_congr rfl (fun _ => rfl) (fun _ => ?_)
    refine ite_congr rfl (fun _ => rfl) (fun _ => ?_)
    refine ite_congr rfl (fun _ => rfl) (fun _ => ?_)
    refine ite_congr rfl (fun _ => rfl) (fun _ => ?_)
    refine ite_congr rfl (fun _ => rfl) (fun _ => ?_)
    refine ite_congr rfl (fun _ => rfl) (fun _ => ?_)
    refine ite_congr rfl (fun _ => rfl) (fun _ => ?_)
    refine ite_congr rfl (fun _ => rfl) (fun _ => ?_)
    refine ite_congr rfl (fun _ => rfl) (fun _ => ?_)
    refine ite_congr rfl (fun _ => rfl) (fun _ => ?_)
    refine ite_congr rfl (fun _ => rfl) (fun _ => ?_)
    refine ite_congr rfl (fun _ => rfl) (fun _ => ?_)
    rfl
theorem gE_p_7_8 {cI cR cM cD : ClassId} {ad : gA} {x : gX} {y : gY} {a : Int} (k1 i1 : Int) : gE cI cR cM cD ad (xU x 8 0 0 a) y k1 i1 = if k1 = 7 ∧ i1 = 0 then .inr (7, [.ref (ad 30 0), .ref (ad 31 0), .ref (ad 5 0), .ref (ad 0 0), .ref (ad 33 0), .ref (ad 4 0), .ref (ad 2 0), .ref (ad 26 0), .int (J (x 18 0 0)), .int (J (x 19 0 0)), .long (Lg (x 8 0 0)), .long (Lg (x 9 0 0))].set 10 (.long (Lg a))) else gE cI cR cM cD ad x y k1 i1 := by
  by_cases hk : k1 = 7
  · subst hk
    show gE7 cI cR cM cD ad (xU x 8 0 0 a) y i1 = if 7 = 7 ∧ i1 = 0 then .inr (7, [.ref (ad 30 0), .ref (ad 31 0), .ref (ad 5 0), .ref (ad 0 0), .ref (ad 33 0), .ref (ad 4 0), .ref (ad 2 0), .ref (ad 26 0), .int (J (x 18 0 0)), .int (J (x 19 0 0)), .long (Lg (x 8 0 0)), .long (Lg (x 9 0 0))].set 10 (.long (Lg a))) else gE7 cI cR cM cD ad x y i1
    by_cases h2 : i1 = 0
    · rw [h2, if_pos ⟨rfl, rfl⟩]
      simp [gE7, xU]
    · rw [if_neg (fun q => h2 q.2)]
      simp [gE7, xU, h2]
  · rw [if_neg (fun q => hk q.1)]
    unfold gE
    refine ite_congr rfl (fun _ => rfl) (fun _ => ?_)
    refine ite_congr rfl (fun _ => rfl) (fun _ => ?_)
    refine ite_congr rfl (fun _ => rfl) (fun _ => ?_)
    refine ite_congr rfl (fun _ => rfl) (fun _ => ?_)
    refine ite_congr rfl (fun _ => rfl) (fun _ => ?_)
    refine ite_congr rfl (fun _ => rfl) (fun _ => ?_)
    refine ite_congr rfl (fun _ => rfl) (fun _ => ?_)
    refine ite_congr rfl (fun h => absurd h hk) (fun _ => ?_)
    refine ite_congr rfl (fun _ => rfl) (fun _ => ?_)
    refine ite_congr rfl (fun _ => rfl) (fun _ => ?_)
    refine ite_congr rfl (fun _ => rfl) (fun _ => ?_)
    refine ite_congr rfl (fun _ => rfl) (fun _ => ?_)
    refine ite_congr rfl (fun _ => rfl) (fun _ => ?_)
    refine ite_congr rfl (fun _ => rfl) (fun _ => ?_)
    refine ite_congr rfl (fun _ => rfl) (fun _ => ?_)
    refine ite_congr rfl (fun _ => rfl) (fun _ => ?_)
    refine ite_congr rfl (fun _ => rfl) (fun _ => ?_)
    refine ite_congr rfl (fun _ => rfl) (fun _ => ?_)
    refine ite_congr rfl (fun _ => rfl) (fun _ => ?_)
    refine ite_congr rfl (fun _ => rfl) (fun _ => ?_)
    refine ite_congr rfl (fun _ => rfl) (fun _ => ?_)
    refine ite_congr rfl (fun _ => rfl) (fun _ => ?_)
    rfl
theorem gE_p_7_9 {cI cR cM cD : ClassId} {ad : gA} {x : gX} {y : gY} {a : Int} (k1 i1 : Int) : gE cI cR cM cD ad (xU x 9 0 0 a) y k1 i1 = if k1 = 7 ∧ i1 = 0 then .inr (7, [.ref (ad 30 0), .ref (ad 31 0), .ref (ad 5 0), .ref (ad 0 0), .ref (ad 33 0), .ref (ad 4 0), .ref (ad 2 0), .ref (ad 26 0), .int (J (x 18 0 0)), .int (J (x 19 0 0)), .long (Lg (x 8 0 0)), .long (Lg (x 9 0 0))].set 11 (.long (Lg a))) else gE cI cR cM cD ad x y k1 i1 := by
  by_cases hk : k1 = 7
  · subst hk
    show gE7 cI cR cM cD ad (xU x 9 0 0 a) y i1 = if 7 = 7 ∧ i1 = 0 then .inr (7, [.ref (ad 30 0), .ref (ad 31 0), .ref (ad 5 0), .ref (ad 0 0), .ref (ad 33 0), .ref (ad 4 0), .ref (ad 2 0), .ref (ad 26 0), .int (J (x 18 0 0)), .int (J (x 19 0 0)), .long (Lg (x 8 0 0)), .long (Lg (x 9 0 0))].set 11 (.long (Lg a))) else gE7 cI cR cM cD ad x y i1
    by_cases h2 : i1 = 0
    · rw [h2, if_pos ⟨rfl, rfl⟩]
      simp [gE7, xU]
    · rw [if_neg (fun q => h2 q.2)]
      simp [gE7, xU, h2]
  · rw [if_neg (fun q => hk q.1)]
    unfold gE
    refine ite_congr rfl (fun _ => rfl) (fun _ => ?_)
    refine ite_congr rfl (fun _ => rfl) (fun _ => ?_)
    refine ite_congr rfl (fun _ => rfl) (fun _ => ?_)
    refine ite_congr rfl (fun _ => rfl) (fun _ => ?_)
    refine ite_congr rfl (fun _ => rfl) (fun _ => ?_)
    refine ite_congr rfl (fun _ => rfl) (fun _ => ?_)
    refine ite_congr rfl (fun _ => rfl) (fun _ => ?_)
    refine ite_congr rfl (fun h => absurd h hk) (fun _ => ?_)
    refine ite_congr rfl (fun _ => rfl) (fun _ => ?_)
    refine ite_congr rfl (fun _ => rfl) (fun _ => ?_)
    refine ite_congr rfl (fun _ => rfl) (fun _ => ?_)
    refine ite_congr rfl (fun _ => rfl) (fun _ => ?_)
    refine ite_congr rfl (fun _ => rfl) (fun _ => ?_)
    refine ite_congr rfl (fun _ => rfl) (fun _ => ?_)
    refine ite_congr rfl (fun _ => rfl) (fun _ => ?_)
    refine ite_congr rfl (fun _ => rfl) (fun _ => ?_)
    refine ite_congr rfl (fun _ => rfl) (fun _ => ?_)
    refine ite_congr rfl (fun _ => rfl) (fun _ => ?_)
    refine ite_congr rfl (fun _ => rfl) (fun _ => ?_)
    refine ite_congr rfl (fun _ => rfl) (fun _ => ?_)
    refine ite_congr rfl (fun _ => rfl) (fun _ => ?_)
    refine ite_congr rfl (fun _ => rfl) (fun _ => ?_)
    rfl
theorem gE_s_20 {cI cR cM cD : ClassId} {ad : gA} {x : gX} {y : gY} {i j a : Int} {q0 : Nat} (hj : (q0 : Int) = j) (k1 i1 : Int) : gE cI cR cM cD ad (xU x 20 i j a) y k1 i1 = if k1 = 20 ∧ i1 = i then .inl (cI, (if i < 6 then 40 else 60), .inl (upd (fun j => J (x 20 i (j : Int))) q0 (J a))) else gE cI cR cM cD ad x y k1 i1 := by
  by_cases hk : k1 = 20
  · subst hk
    show gE20 cI cR cM cD ad (xU x 20 i j a) y i1 = if 20 = 20 ∧ i1 = i then .inl (cI, (if i < 6 then 40 else 60), .inl (upd (fun j => J (x 20 i (j : Int))) q0 (J a))) else gE20 cI cR cM cD ad x y i1
    by_cases h2 : i1 = i
    · rw [h2, if_pos ⟨rfl, rfl⟩]
      have e9 : (fun (w : Nat) => J ((xU x 20 i j a) 20 i (w : Int))) = upd (fun j => J (x 20 i (j : Int))) q0 (J a) := by
        funext w; subst hj; by_cases hw : w = q0
        · subst hw; simp [upd, xU]
        · simp [upd, xU, hw, Int.ofNat_inj]
      rw [← e9]; rfl
    · rw [if_neg (fun q => h2 q.2)]
      simp only [gE20, xU_i h2]
  · rw [if_neg (fun q => hk q.1)]
    unfold gE
    refine ite_congr rfl (fun _ => rfl) (fun _ => ?_)
    refine ite_congr rfl (fun _ => rfl) (fun _ => ?_)
    refine ite_congr rfl (fun _ => rfl) (fun _ => ?_)
    refine ite_congr rfl (fun _ => rfl) (fun _ => ?_)
    refine ite_congr rfl (fun _ => rfl) (fun _ => ?_)
    refine ite_congr rfl (fun _ => rfl) (fun _ => ?_)
    refine ite_congr rfl (fun _ => rfl) (fun _ => ?_)
    refine ite_congr rfl (fun _ => rfl) (fun _ => ?_)
    refine ite_congr rfl (fun h => absurd h hk) (fun _ => ?_)
    refine ite_congr rfl (fun _ => rfl) (fun _ => ?_)
    refine ite_congr rfl (fun _ => rfl) (fun _ => ?_)
    refine ite_congr rfl (fun _ => rfl) (fun _ => ?_)
    refine ite_congr rfl (fun _ => rfl) (fun _ => ?_)
    refine ite_congr rfl (fun _ => rfl) (fun _ => ?_)
    refine ite_congr rfl (fun _ => rfl) (fun _ => ?_)
    refine ite_congr rfl (fun _ => rfl) (fun _ => ?_)
    refine ite_congr rfl (fun _ => rfl) (fun _ => ?_)
    refine ite_congr rfl (fun _ => rfl) (fun _ => ?_)
    refine ite_congr rfl (fun _ => rfl) (fun _ => ?_)
    refine ite_congr rfl (fun _ => rfl) (fun _ => ?_)
    refine ite_congr rfl (fun _ => rfl) (fun _ => ?_)
    refine ite_congr rfl (fun _ => rfl) (fun _ => ?_)
    rfl
theorem gE_s_21 {cI cR cM cD : ClassId} {ad : gA} {x : gX} {y : gY} {i j a : Int} {q0 : Nat} (hj : (q0 : Int) = j) (k1 i1 : Int) : gE cI cR cM cD ad (xU x 21 i j a) y k1 i1 = if k1 = 21 ∧ i1 = i then .inl (cI, (40), .inl (upd (fun j => J (x 21 i (j : Int))) q0 (J a))) else gE cI cR cM cD ad x y k1 i1 := by
  by_cases hk : k1 = 21
  · subst hk
    show gE21 cI cR cM cD ad (xU x 21 i j a) y i1 = if 21 = 21 ∧ i1 = i then .inl (cI, (40), .inl (upd (fun j => J (x 21 i (j : Int))) q0 (J a))) else gE21 cI cR cM cD ad x y i1
    by_cases h2 : i1 = i
    · rw [h2, if_pos ⟨rfl, rfl⟩]
      have e9 : (fun (w : Nat) => J ((xU x 21 i j a) 21 i (w : Int))) = upd (fun j => J (x 21 i (j : Int))) q0 (J a) := by
        funext w; subst hj; by_cases hw : w = q0
        · subst hw; simp [upd, xU]
        · simp [upd, xU, hw, Int.ofNat_inj]
      rw [← e9]; rfl
    · rw [if_neg (fun q => h2 q.2)]
      simp only [gE21, xU_i h2]
  · rw [if_neg (fun q => hk q.1)]
    unfold gE
    refine ite_congr rfl (fun _ => rfl) (fun _ => ?_)
    refine ite_congr rfl (fun _ => rfl) (fun _ => ?_)
    refine ite_congr rfl (fun _ => rfl) (fun _ => ?_)
    refine ite_congr rfl (fun _ => rfl) (fun _ => ?_)
    refine ite_congr rfl (fun _ => rfl) (fun _ => ?_)
    refine ite_congr rfl (fun _ => rfl) (fun _ => ?_)
    refine ite_congr rfl (fun _ => rfl) (fun _ => ?_)
    refine ite_congr rfl (fun _ => rfl) (fun _ => ?_)
    refine ite_congr rfl (fun _ => rfl) (fun _ => ?_)
    refine ite_congr rfl (fun h => absurd h hk) (fun _ => ?_)
    refine ite_congr rfl (fun _ => rfl) (fun _ => ?_)
    refine ite_congr rfl (fun _ => rfl) (fun _ => ?_)
    refine ite_congr rfl (fun _ => rfl) (fun _ => ?_)
    refine ite_congr rfl (fun _ => rfl) (fun _ => ?_)
    refine ite_congr rfl (fun _ => rfl) (fun _ => ?_)
    refine ite_congr rfl (fun _ => rfl) (fun _ => ?_)
    refine ite_congr rfl (fun _ => rfl) (fun _ => ?_)
    refine ite_congr rfl (fun _ => rfl) (fun _ => ?_)
    refine ite_congr rfl (fun _ => rfl) (fun _ => ?_)
    refine ite_congr rfl (fun _ => rfl) (fun _ => ?_)
    refine ite_congr rfl (fun _ => rfl) (fun _ => ?_)
    refine ite_congr rfl (fun _ => rfl) (fun _ => ?_)
    rfl
theorem gE_s_22 {cI cR cM cD : ClassId} {ad : gA} {x : gX} {y : gY} {i j a : Int} {q0 : Nat} (hj : (q0 : Int) = j) (k1 i1 : Int) : gE cI cR cM cD ad (xU x 22 i j a) y k1 i1 = if k1 = 22 ∧ i1 = i then .inl (cI, (40), .inl (upd (fun j => J (x 22 i (j : Int))) q0 (J a))) else gE cI cR cM cD ad x y k1 i1 := by
  by_cases hk : k1 = 22
  · subst hk
    show gE22 cI cR cM cD ad (xU x 22 i j a) y i1 = if 22 = 22 ∧ i1 = i then .inl (cI, (40), .inl (upd (fun j => J (x 22 i (j : Int))) q0 (J a))) else gE22 cI cR cM cD ad x y i1
    by_cases h2 : i1 = i
    · rw [h2, if_pos ⟨rfl, rfl⟩]
      have e9 : (fun (w : Nat) => J ((xU x 22 i j a) 22 i (w : Int))) = upd (fun j => J (x 22 i (j : Int))) q0 (J a) := by
        funext w; subst hj; by_cases hw : w = q0
        · subst hw; simp [upd, xU]
        · simp [upd, xU, hw, Int.ofNat_inj]
      rw [← e9]; rfl
    · rw [if_neg (fun q => h2 q.2)]
      simp only [gE22, xU_i h2]
  · rw [if_neg (fun q => hk q.1)]
    unfold gE
    refine ite_congr rfl (fun _ => rfl) (fun _ => ?_)
    refine ite_congr rfl (fun _ => rfl) (fun _ => ?_)
    refine ite_congr rfl (fun _ => rfl) (fun _ => ?_)
    refine ite_congr rfl (fun _ => rfl) (fun _ => ?_)
    refine ite_congr rfl (fun _ => rfl) (fun _ => ?_)
    refine ite_congr rfl (fun _ => rfl) (fun _ => ?_)
    refine ite_congr rfl (fun _ => rfl) (fun _ => ?_)
    refine ite_congr rfl (fun _ => rfl) (fun _ => ?_)
    refine ite_congr rfl (fun _ => rfl) (fun _ => ?_)
    refine ite_congr rfl (fun _ => rfl) (fun _ => ?_)
    refine ite_congr rfl (fun h => absurd h hk) (fun _ => ?_)
    refine ite_congr rfl (fun _ => rfl) (fun _ => ?_)
    refine ite_congr rfl (fun _ => rfl) (fun _ => ?_)
    refine ite_congr rfl (fun _ => rfl) (fun _ => ?_)
    refine ite_congr rfl (fun _ => rfl) (fun _ => ?_)
    refine ite_congr rfl (fun _ => rfl) (fun _ => ?_)
    refine ite_congr rfl (fun _ => rfl) (fun _ => ?_)
    refine ite_congr rfl (fun _ => rfl) (fun _ => ?_)
    refine ite_congr rfl (fun _ => rfl) (fun _ => ?_)
    refine ite_congr rfl (fun _ => rfl) (fun _ => ?_)
    refine ite_congr rfl (fun _ => rfl) (fun _ => ?_)
    refine ite_congr rfl (fun _ => rfl) (fun _ => ?_)
    rfl
theorem gE_s_23 {cI cR cM cD : ClassId} {ad : gA} {x : gX} {y : gY} {j a : Int} {q0 : Nat} (hj : (q0 : Int) = j) (k1 i1 : Int) : gE cI cR cM cD ad (xU x 23 0 j a) y k1 i1 = if k1 = 23 ∧ i1 = 0 then .inl (cI, (28), .inl (upd (fun j => J (x 23 0 (j : Int))) q0 (J a))) else gE cI cR cM cD ad x y k1 i1 := by
  by_cases hk : k1 = 23
  · subst hk
    show gE23 cI cR cM cD ad (xU x 23 0 j a) y i1 = if 23 = 23 ∧ i1 = 0 then .inl (cI, (28), .inl (upd (fun j => J (x 23 0 (j : Int))) q0 (J a))) else gE23 cI cR cM cD ad x y i1
    by_cases h2 : i1 = 0
    · rw [h2, if_pos ⟨rfl, rfl⟩]
      have e9 : (fun (w : Nat) => J ((xU x 23 0 j a) 23 0 (w : Int))) = upd (fun j => J (x 23 0 (j : Int))) q0 (J a) := by
        funext w; subst hj; by_cases hw : w = q0
        · subst hw; simp [upd, xU]
        · simp [upd, xU, hw, Int.ofNat_inj]
      rw [← e9]; rfl
    · rw [if_neg (fun q => h2 q.2)]
      simp only [gE23, xU_i h2]
  · rw [if_neg (fun q => hk q.1)]
    unfold gE
    refine ite_congr rfl (fun _ => rfl) (fun _ => ?_)
    refine ite_congr rfl (fun _ => rfl) (fun _ => ?_)
    refine ite_congr rfl (fun _ => rfl) (fun _ => ?_)
    refine ite_congr rfl (fun _ => rfl) (fun _ => ?_)
    refine ite_congr rfl (fun _ => rfl) (fun _ => ?_)
    refine ite_congr rfl (fun _ => rfl) (fun _ => ?_)
    refine ite_congr rfl (fun _ => rfl) (fun _ => ?_)
    refine ite_congr rfl (fun _ => rfl) (fun _ => ?_)
    refine ite_congr rfl (fun _ => rfl) (fun _ => ?_)
    refine ite_congr rfl (fun _ => rfl) (fun _ => ?_)
    refine ite_congr rfl (fun _ => rfl) (fun _ => ?_)
    refine ite_congr rfl (fun h => absurd h hk) (fun _ => ?_)
    refine ite_congr rfl (fun _ => rfl) (fun _ => ?_)
    refine ite_congr rfl (fun _ => rfl) (fun _ => ?_)
    refine ite_congr rfl (fun _ => rfl) (fun _ => ?_)
    refine ite_congr rfl (fun _ => rfl) (fun _ => ?_)
    refine ite_congr rfl (fun _ => rfl) (fun _ => ?_)
    refine ite_congr rfl (fun _ => rfl) (fun _ => ?_)
    refine ite_congr rfl (fun _ => rfl) (fun _ => ?_)
    refine ite_congr rfl (fun _ => rfl) (fun _ => ?_)
    refine ite_congr rfl (fun _ => rfl) (fun _ => ?_)
    refine ite_congr rfl (fun _ => rfl) (fun _ => ?_)
    rfl
theorem gE_s_24 {cI cR cM cD : ClassId} {ad : gA} {x : gX} {y : gY} {j a : Int} {q0 : Nat} (hj : (q0 : Int) = j) (k1 i1 : Int) : gE cI cR cM cD ad (xU x 24 0 j a) y k1 i1 = if k1 = 24 ∧ i1 = 0 then .inl (cI, (6), .inl (upd (fun j => J (x 24 0 (j : Int))) q0 (J a))) else gE cI cR cM cD ad x y k1 i1 := by
  by_cases hk : k1 = 24
  · subst hk
    show gE24 cI cR cM cD ad (xU x 24 0 j a) y i1 = if 24 = 24 ∧ i1 = 0 then .inl (cI, (6), .inl (upd (fun j => J (x 24 0 (j : Int))) q0 (J a))) else gE24 cI cR cM cD ad x y i1
    by_cases h2 : i1 = 0
    · rw [h2, if_pos ⟨rfl, rfl⟩]
      have e9 : (fun (w : Nat) => J ((xU x 24 0 j a) 24 0 (w : Int))) = upd (fun j => J (x 24 0 (j : Int))) q0 (J a) := by
        funext w; subst hj; by_cases hw : w = q0
        · subst hw; simp [upd, xU]
        · simp [upd, xU, hw, Int.ofNat_inj]
      rw [← e9]; rfl
    · rw [if_neg (fun q => h2 q.2)]
      simp only [gE24, xU_i h2]
  · rw [if_neg (fun q => hk q.1)]
    unfold gE
    refine ite_congr rfl (fun _ => rfl) (fun _ => ?_)
    refine ite_congr rfl (fun _ => rfl) (fun _ => ?_)
    refine ite_congr rfl (fun _ => rfl) (fun _ => ?_)
    refine ite_congr rfl (fun _ => rfl) (fun _ => ?_)
    refine ite_congr rfl (fun _ => rfl) (fun _ => ?_)
    refine ite_congr rfl (fun _ => rfl) (fun _ => ?_)
    refine ite_congr rfl (fun _ => rfl) (fun _ => ?_)
    refine ite_congr rfl (fun _ => rfl) (fun _ => ?_)
    refine ite_congr rfl (fun _ => rfl) (fun _ => ?_)
    refine ite_congr rfl (fun _ => rfl) (fun _ => ?_)
    refine ite_congr rfl (fun _ => rfl) (fun _ => ?_)
    refine ite_congr rfl (fun _ => rfl) (fun _ => ?_)
    refine ite_congr rfl (fun h => absurd h hk) (fun _ => ?_)
    refine ite_congr rfl (fun _ => rfl) (fun _ => ?_)
    refine ite_congr rfl (fun _ => rfl) (fun _ => ?_)
    refine ite_congr rfl (fun _ => rfl) (fun _ => ?_)
    refine ite_congr rfl (fun _ => rfl) (fun _ => ?_)
    refine ite_congr rfl (fun _ => rfl) (fun _ => ?_)
    refine ite_congr rfl (fun _ => rfl) (fun _ => ?_)
    refine ite_congr rfl (fun _ => rfl) (fun _ => ?_)
    refine ite_congr rfl (fun _ => rfl) (fun _ => ?_)
    refine ite_congr rfl (fun _ => rfl) (fun _ => ?_)
    rfl
theorem gE_s_25 {cI cR cM cD : ClassId} {ad : gA} {x : gX} {y : gY} {i j a : Int} {q0 : Nat} (hj : (q0 : Int) = j) (k1 i1 : Int) : gE cI cR cM cD ad (xU x 25 i j a) y k1 i1 = if k1 = 25 ∧ i1 = i then .inl (cI, (31), .inl (upd (fun j => J (x 25 i (j : Int))) q0 (J a))) else gE cI cR cM cD ad x y k1 i1 := by
  by_cases hk : k1 = 25
  · subst hk
    show gE25 cI cR cM cD ad (xU x 25 i j a) y i1 = if 25 = 25 ∧ i1 = i then .inl (cI, (31), .inl (upd (fun j => J (x 25 i (j : Int))) q0 (J a))) else gE25 cI cR cM cD ad x y i1
    by_cases h2 : i1 = i
    · rw [h2, if_pos ⟨rfl, rfl⟩]
      have e9 : (fun (w : Nat) => J ((xU x 25 i j a) 25 i (w : Int))) = upd (fun j => J (x 25 i (j : Int))) q0 (J a) := by
        funext w; subst hj; by_cases hw : w = q0
        · subst hw; simp [upd, xU]
        · simp [upd, xU, hw, Int.ofNat_inj]
      rw [← e9]; rfl
    · rw [if_neg (fun q => h2 q.2)]
      simp only [gE25, xU_i h2]
  · rw [if_neg (fun q => hk q.1)]
    unfold gE
    refine ite_congr rfl (fun _ => rfl) (fun _ => ?_)
    refine ite_congr rfl (fun _ => rfl) (fun _ => ?_)
    refine ite_congr rfl (fun _ => rfl) (fun _ => ?_)
    refine ite_congr rfl (fun _ => rfl) (fun _ => ?_)
    refine ite_congr rfl (fun _ => rfl) (fun _ => ?_)
    refine ite_congr rfl (fun _ => rfl) (fun _ => ?_)
    refine ite_congr rfl (fun _ => rfl) (fun _ => ?_)
    refine ite_congr rfl (fun _ => rfl) (fun _ => ?_)
    refine ite_congr rfl (fun _ => rfl) (fun _ => ?_)
    refine ite_congr rfl (fun _ => rfl) (fun _ => ?_)
    refine ite_congr rfl (fun _ => rfl) (fun _ => ?_)
    refine ite_congr rfl (fun _ => rfl) (fun _ => ?_)
    refine ite_congr rfl (fun _ => rfl) (fun _ => ?_)
    refine ite_congr rfl (fun h => absurd h hk) (fun _ => ?_)
    refine ite_congr rfl (fun _ => rfl) (fun _ => ?_)
    refine ite_congr rfl (fun _ => rfl) (fun _ => ?_)
    refine ite_congr rfl (fun _ => rfl) (fun _ => ?_)
    refine ite_congr rfl (fun _ => rfl) (fun _ => ?_)
    refine ite_congr rfl (fun _ => rfl) (fun _ => ?_)
    refine ite_congr rfl (fun _ => rfl) (fun _ => ?_)
    refine ite_congr rfl (fun _ => rfl) (fun _ => ?_)
    refine ite_congr rfl (fun _ => rfl) (fun _ => ?_)
    rfl
theorem gE_s_26 {cI cR cM cD : ClassId} {ad : gA} {x : gX} {y : gY} {j a : Int} {q0 : Nat} (hj : (q0 : Int) = j) (k1 i1 : Int) : gE cI cR cM cD ad (xU x 26 0 j a) y k1 i1 = if k1 = 26 ∧ i1 = 0 then .inl (cI, (6), .inl (upd (fun j => J (x 26 0 (j : Int))) q0 (J a))) else gE cI cR cM cD ad x y k1 i1 := by
  by_cases hk : k1 = 26
  · subst hk
    show gE26 cI cR cM cD ad (xU x 26 0 j a) y i1 = if 26 = 26 ∧ i1 = 0 then .inl (cI, (6), .inl (upd (fun j => J (x 26 0 (j : Int))) q0 (J a))) else gE26 cI cR cM cD ad x y i1
    by_cases h2 : i1 = 0
    · rw [h2, if_pos ⟨rfl, rfl⟩]
      have e9 : (fun (w : Nat) => J ((xU x 26 0 j a) 26 0 (w : Int))) = upd (fun j => J (x 26 0 (j : Int))) q0 (J a) := by
        funext w; subst hj; by_cases hw : w = q0
        · subst hw; simp [upd, xU]
        · simp [upd, xU, hw, Int.ofNat_inj]
      rw [← e9]; rfl
    · rw [if_neg (fun q => h2 q.2)]
      simp only [gE26, xU_i h2]
  · rw [if_neg (fun q => hk q.1)]
    unfold gE
    refine ite_congr rfl (fun _ => rfl) (fun _ => ?_)
    refine ite_congr rfl (fun _ => rfl) (fun _ => ?_)
    refine ite_congr rfl (fun _ => rfl) (fun _ => ?_)
    refine ite_congr rfl (fun _ => rfl) (fun _ => ?_)
    refine ite_congr rfl (fun _ => rfl) (fun _ => ?_)
    refine ite_congr rfl (fun _ => rfl) (fun _ => ?_)
    refine ite_congr rfl (fun _ => rfl) (fun _ => ?_)
    refine ite_congr rfl (fun _ => rfl) (fun _ => ?_)
    refine ite_congr rfl (fun _ => rfl) (fun _ => ?_)
    refine ite_congr rfl (fun _ => rfl) (fun _ => ?_)
    refine ite_congr rfl (fun _ => rfl) (fun _ => ?_)
    refine ite_congr rfl (fun _ => rfl) (fun _ => ?_)
    refine ite_congr rfl (fun _ => rfl) (fun _ => ?_)
    refine ite_congr rfl (fun _ => rfl) (fun _ => ?_)
    refine ite_congr rfl (fun h => absurd h hk) (fun _ => ?_)
    refine ite_congr rfl (fun _ => rfl) (fun _ => ?_)
    refine ite_congr rfl (fun _ => rfl) (fun _ => ?_)
    refine ite_congr rfl (fun _ => rfl) (fun _ => ?_)
    refine ite_congr rfl (fun _ => rfl) (fun _ => ?_)
    refine ite_congr rfl (fun _ => rfl) (fun _ => ?_)
    refine ite_congr rfl (fun _ => rfl) (fun _ => ?_)
    refine ite_congr rfl (fun _ => rfl) (fun _ => ?_)
    rfl
theorem gE_s_41 {cI cR cM cD : ClassId} {ad : gA} {x : gX} {y : gY} {j a : Int} {q0 : Nat} (hj : (q0 : Int) = j) (k1 i1 : Int) : gE cI cR cM cD ad x (yU y 41 j a) k1 i1 = if k1 = 41 ∧ i1 = 0 then .inl (cI, (29), .inl (upd (fun j => J (y 41 (j : Int))) q0 (J a))) else gE cI cR cM cD ad x y k1 i1 := by
  by_cases hk : k1 = 41
  · subst hk
    show gE41 cI cR cM cD ad x (yU y 41 j a) i1 = if 41 = 41 ∧ i1 = 0 then .inl (cI, (29), .inl (upd (fun j => J (y 41 (j : Int))) q0 (J a))) else gE41 cI cR cM cD ad x y i1
    by_cases h2 : i1 = 0
    · rw [h2, if_pos ⟨rfl, rfl⟩]
      have e9 : (fun (w : Nat) => J ((yU y 41 j a) 41 (w : Int))) = upd (fun j => J (y 41 (j : Int))) q0 (J a) := by
        funext w; subst hj; by_cases hw : w = q0
        · subst hw; simp [upd, yU]
        · simp [upd, yU, hw, Int.ofNat_inj]
      rw [← e9]; rfl
    · rw [if_neg (fun q => h2 q.2)]
      simp [gE41, h2]
  · rw [if_neg (fun q => hk q.1)]
    unfold gE
    refine ite_congr rfl (fun _ => rfl) (fun _ => ?_)
    refine ite_congr rfl (fun _ => rfl) (fun _ => ?_)
    refine ite_congr rfl (fun _ => rfl) (fun _ => ?_)
    refine ite_congr rfl (fun _ => rfl) (fun _ => ?_)
    refine ite_congr rfl (fun _ => rfl) (fun _ => ?_)
    refine ite_congr rfl (fun _ => rfl) (fun _ => ?_)
    refine ite_congr rfl (fun _ => rfl) (fun _ => ?_)
    refine ite_congr rfl (fun _ => rfl) (fun _ => ?_)
    refine ite_congr rfl (fun _ => rfl) (fun _ => ?_)
    refine ite_congr rfl (fun _ => rfl) (fun _ => ?_)
    refine ite_congr rfl (fun _ => rfl) (fun _ => ?_)
    refine ite_congr rfl (fun _ => rfl) (fun _ => ?_)
    refine ite_congr rfl (fun _ => rfl) (fun _ => ?_)
    refine ite_congr rfl (fun _ => rfl) (fun _ => ?_)
    refine ite_congr rfl (fun _ => rfl) (fun _ => ?_)
    refine ite_congr rfl (fun _ => rfl) (fun _ => ?_)
    refine ite_congr rfl (fun _ => rfl) (fun _ => ?_)
    refine ite_congr rfl (fun _ => rfl) (fun _ => ?_)
    refine ite_congr rfl (fun _ => rfl) (fun _ => ?_)
    refine ite_congr rfl (fun h => absurd h hk) (fun _ => ?_)
    refine ite_congr rfl (fun _ => rfl) (fun _ => ?_)
    refine ite_congr rfl (fun _ => rfl) (fun _ => ?_)
    rfl
theorem gE_s_42 {cI cR cM cD : ClassId} {ad : gA} {x : gX} {y : gY} {j a : Int} {q0 : Nat} (hj : (q0 : Int) = j) (k1 i1 : Int) : gE cI cR cM cD ad x (yU y 42 j a) k1 i1 = if k1 = 42 ∧ i1 = 0 then .inl (cI, (16), .inl (upd (fun j => J (y 42 (j : Int))) q0 (J a))) else gE cI cR cM cD ad x y k1 i1 := by
  by_cases hk : k1 = 42
  · subst hk
    show gE42 cI cR cM cD ad x (yU y 42 j a) i1 = if 42 = 42 ∧ i1 = 0 then .inl (cI, (16), .inl (upd (fun j => J (y 42 (j : Int))) q0 (J a))) else gE42 cI cR cM cD ad x y i1
    by_cases h2 : i1 = 0
    · rw [h2, if_pos ⟨rfl, rfl⟩]
      have e9 : (fun (w : Nat) => J ((yU y 42 j a) 42 (w : Int))) = upd (fun j => J (y 42 (j : Int))) q0 (J a) := by
        funext w; subst hj; by_cases hw : w = q0
        · subst hw; simp [upd, yU]
        · simp [upd, yU, hw, Int.ofNat_inj]
      rw [← e9]; rfl
    · rw [if_neg (fun q => h2 q.2)]
      simp [gE42, h2]
  · rw [if_neg (fun q => hk q.1)]
    unfold gE
    refine ite_congr rfl (fun _ => rfl) (fun _ => ?_)
    refine ite_congr rfl (fun _ => rfl) (fun _ => ?_)
    refine ite_congr rfl (fun _ => rfl) (fun _ => ?_)
    refine ite_congr rfl (fun _ => rfl) (fun _ => ?_)
    refine ite_congr rfl (fun _ => rfl) (fun _ => ?_)
    refine ite_congr rfl (fun _ => rfl) (fun _ => ?_)
    refine ite_congr rfl (fun _ => rfl) (fun _ => ?_)
    refine ite_congr rfl (fun _ => rfl) (fun _ => ?_)
    refine ite_congr rfl (fun _ => rfl) (fun _ => ?_)
    refine ite_congr rfl (fun _ => rfl) (fun _ => ?_)
    refine ite_congr rfl (fun _ => rfl) (fun _ => ?_)
    refine ite_congr rfl (fun _ => rfl) (fun _ => ?_)
    refine ite_congr rfl (fun _ => rfl) (fun _ => ?_)
    refine ite_congr rfl (fun _ => rfl) (fun _ => ?_)
    refine ite_congr rfl (fun _ => rfl) (fun _ => ?_)
    refine ite_congr rfl (fun _ => rfl) (fun _ => ?_)
    refine ite_congr rfl (fun _ => rfl) (fun _ => ?_)
    refine ite_congr rfl (fun _ => rfl) (fun _ => ?_)
    refine ite_congr rfl (fun _ => rfl) (fun _ => ?_)
    refine ite_congr rfl (fun _ => rfl) (fun _ => ?_)
    refine ite_congr rfl (fun h => absurd h hk) (fun _ => ?_)
    refine ite_congr rfl (fun _ => rfl) (fun _ => ?_)
    rfl
theorem gE_s_43 {cI cR cM cD : ClassId} {ad : gA} {x : gX} {y : gY} {j a : Int} {q0 : Nat} (hj : (q0 : Int) = j) (k1 i1 : Int) : gE cI cR cM cD ad x (yU y 43 j a) k1 i1 = if k1 = 43 ∧ i1 = 0 then .inl (cI, (6), .inl (upd (fun j => J (y 43 (j : Int))) q0 (J a))) else gE cI cR cM cD ad x y k1 i1 := by
  by_cases hk : k1 = 43
  · subst hk
    show gE43 cI cR cM cD ad x (yU y 43 j a) i1 = if 43 = 43 ∧ i1 = 0 then .inl (cI, (6), .inl (upd (fun j => J (y 43 (j : Int))) q0 (J a))) else gE43 cI cR cM cD ad x y i1
    by_cases h2 : i1 = 0
    · rw [h2, if_pos ⟨rfl, rfl⟩]
      have e9 : (fun (w : Nat) => J ((yU y 43 j a) 43 (w : Int))) = upd (fun j => J (y 43 (j : Int))) q0 (J a) := by
        funext w; subst hj; by_cases hw : w = q0
        · subst hw; simp [upd, yU]
        · simp [upd, yU, hw, Int.ofNat_inj]
      rw [← e9]; rfl
    · rw [if_neg (fun q => h2 q.2)]
      simp [gE43, h2]
  · rw [if_neg (fun q => hk q.1)]
    unfold gE
    refine ite_congr rfl (fun _ => rfl) (fun _ => ?_)
    refine ite_congr rfl (fun _ => rfl) (fun _ => ?_)
    refine ite_congr rfl (fun _ => rfl) (fun _ => ?_)
    refine ite_congr rfl (fun _ => rfl) (fun _ => ?_)
    refine ite_congr rfl (fun _ => rfl) (fun _ => ?_)
    refine ite_congr rfl (fun _ => rfl) (fun _ => ?_)
    refine ite_congr rfl (fun _ => rfl) (fun _ => ?_)
    refine ite_congr rfl (fun _ => rfl) (fun _ => ?_)
    refine ite_congr rfl (fun _ => rfl) (fun _ => ?_)
    refine ite_congr rfl (fun _ => rfl) (fun _ => ?_)
    refine ite_congr rfl (fun _ => rfl) (fun _ => ?_)
    refine ite_congr rfl (fun _ => rfl) (fun _ => ?_)
    refine ite_congr rfl (fun _ => rfl) (fun _ => ?_)
    refine ite_congr rfl (fun _ => rfl) (fun _ => ?_)
    refine ite_congr rfl (fun _ => rfl) (fun _ => ?_)
    refine ite_congr rfl (fun _ => rfl) (fun _ => ?_)
    refine ite_congr rfl (fun _ => rfl) (fun _ => ?_)
    refine ite_congr rfl (fun _ => rfl) (fun _ => ?_)
    refine ite_congr rfl (fun _ => rfl) (fun _ => ?_)
    refine ite_congr rfl (fun _ => rfl) (fun _ => ?_)
    refine ite_congr rfl (fun _ => rfl) (fun _ => ?_)
    refine ite_congr rfl (fun h => absurd h hk) (fun _ => ?_)
    rfl
