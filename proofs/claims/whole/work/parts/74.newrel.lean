/-! the two begin alike -/
theorem Rel_new : Rel xN (lbY yN) := by
  have e17 : ∀ r : Int, xN 17 r 0 = -1 := fun _ => rfl
  have e20 : ∀ r j : Int, xN 20 r j = 0 := fun _ _ => rfl
  have e16 : ∀ b : Int, 1 ≤ b → b < 4 → xN 16 b 0 = -1 := fun b h0 h1 => by
    show (if b = 0 then (0 : Int) else -1) = -1
    exact if_neg (by omega)
  have e10 : xN 10 0 0 = 0 := rfl
  have hN : NOK xN := ⟨⟨⟨by decide, by decide⟩, ⟨by decide, by decide⟩, ⟨by decide, by decide⟩, ⟨by decide, by decide⟩⟩, ⟨by decide, by decide⟩, ⟨by decide, by decide⟩, fun i h0 h1 => by rw [e10] at h1; omega⟩
  have hW : RWI xN := fun r r0 r1 => by
    rw [e17]
    refine ⟨⟨by decide, by split <;> decide⟩, fun j => ?_, fun _ j => ?_⟩
    · rw [e20]; exact ⟨by decide, by decide⟩
    · rw [e20]; exact ⟨by decide, by decide⟩
  have z16 : xN 16 0 0 = 0 := rfl
  have hD : DDI xN := by
    refine ⟨⟨⟨by decide, by decide⟩, fun b h0 h1 => by rw [e16 b h0 h1]; decide⟩, fun b h0 h1 j j0 j1 => ?_⟩
    rcases (show b = 0 ∨ 1 ≤ b by omega) with e | e
    · rw [e, z16] at j1; omega
    · rw [e16 b e h1] at j1; omega
  have hC : CUR xN := ⟨by decide +kernel, fun i h0 h1 => by rw [e10] at h1; omega⟩
  have hM : MSC xN := ⟨Or.inl ⟨rfl, rfl⟩, rfl, rfl⟩
  have hk : ∀ k j : Int, k ≠ 40 → lbY yN k j = yN k j := fun k j h => by rw [lbY_k _ h]
  refine ⟨⟨hN, hW, hD, hC, hM⟩, ⟨by rw [hk _ _ (by decide)]; rfl, by rw [hk _ _ (by decide)]; rfl, by rw [hk _ _ (by decide)]; rfl, by rw [hk _ _ (by decide)]; rfl, by rw [hk _ _ (by decide)]; rfl, fun i h0 h1 => by rw [e10] at h1; omega⟩, fun b b0 b1 => ?_, ⟨fun r r0 r1 => ?_, fun t t0 t1 => ?_⟩, ?_⟩
  · refine ⟨?_, fun h0 => ⟨fun k k0 k1 => ?_, fun j k j0 j1 => ?_⟩⟩
    · rcases (show b = 0 ∨ b = 1 ∨ b = 2 ∨ b = 3 by omega) with rfl | rfl | rfl | rfl <;> decide +kernel
    · rcases (show b = 0 ∨ 1 ≤ b by omega) with rfl | e
      · rcases (show k = 0 ∨ k = 1 ∨ k = 2 ∨ k = 3 ∨ k = 4 ∨ k = 5 ∨ k = 6 ∨ k = 7 ∨ k = 8 ∨ k = 9 ∨ k = 10 ∨ k = 11 ∨ k = 12 ∨ k = 13 ∨ k = 14 ∨ k = 15 by omega) with rfl | rfl | rfl | rfl | rfl | rfl | rfl | rfl | rfl | rfl | rfl | rfl | rfl | rfl | rfl | rfl <;> decide +kernel
      · rw [e16 b e b1] at h0; omega
    · rcases (show b = 0 ∨ 1 ≤ b by omega) with e | e
      · rw [e, z16] at j1; omega
      · rw [e16 b e b1] at h0; omega
  · rw [hk _ _ (by decide), e17]
    refine ⟨?_, fun j j0 j1 => by omega⟩
    rcases (show r = 0 ∨ r = 1 ∨ r = 2 ∨ r = 3 ∨ r = 4 ∨ r = 5 by omega) with rfl | rfl | rfl | rfl | rfl | rfl <;> decide
  · rw [hk _ _ (by decide), e17]
    refine ⟨?_, fun j j0 j1 => by omega⟩
    rcases (show t = 0 ∨ t = 1 ∨ t = 2 ∨ t = 3 by omega) with rfl | rfl | rfl | rfl <;> decide
  · refine ⟨by rw [hk _ _ (by decide)]; rfl, by rw [hk _ _ (by decide)]; rfl, by rw [hk _ _ (by decide)]; rfl, by rw [hk _ _ (by decide)]; rfl, fun f f0 f1 => ?_⟩
    rw [hk _ _ (by decide)]
    rfl
