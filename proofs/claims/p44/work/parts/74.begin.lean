/-! a fresh object; behind court and keep -/
theorem INV_xN : INV xN := by
  have e17 : ∀ r : Int, xN 17 r 0 = -1 := fun _ => rfl
  have e20 : ∀ r j : Int, xN 20 r j = 0 := fun _ _ => rfl
  have e16 : ∀ b : Int, 1 ≤ b → b < 4 → xN 16 b 0 = -1 := fun b h0 h1 => by
    show (if b = 0 then (0 : Int) else -1) = -1
    exact if_neg (by omega)
  have e10 : xN 10 0 0 = 0 := rfl
  have hN : NOK xN := ⟨⟨⟨by decide, by decide⟩, ⟨by decide, by decide⟩, ⟨by decide, by decide⟩, ⟨by decide, by decide⟩⟩, ⟨by decide, by decide⟩, ⟨by decide, by decide⟩, fun i h0 h1 => by rw [e10] at h1; omega⟩
  have hW : RWI xN := fun r r0 r1 => by
    rw [e17]
    refine ⟨⟨by decide, by split <;> decide⟩, fun j => ?_, fun _ j => ?_⟩
    · rw [e20]; exact ⟨by decide, by decide⟩
    · rw [e20]; exact ⟨by decide, by decide⟩
  have z16 : xN 16 0 0 = 0 := rfl
  have hD : DDI xN := by
    refine ⟨⟨⟨by decide, by decide⟩, fun b h0 h1 => by rw [e16 b h0 h1]; decide⟩, fun b h0 h1 j j0 j1 => ?_⟩
    rcases (show b = 0 ∨ 1 ≤ b by omega) with e | e
    · rw [e, z16] at j1; omega
    · rw [e16 b e h1] at j1; omega
  have hC : CUR xN := ⟨by decide +kernel, fun i h0 h1 => by rw [e10] at h1; omega⟩
  have hM : MSC xN := ⟨Or.inl ⟨rfl, rfl⟩, rfl, rfl⟩
  exact ⟨hN, hW, hD, hC, hM⟩
theorem beg_ok {x u : gX} {w : gY} (h : CT x u w) (h17 : ∀ r : Int, 0 ≤ r → r < 10 → x 17 r 0 = -1) : (sKeep u 0).1 = 0 ∧ BEG u (sKeep u 0).2 ∧ PG (sKeep u 0).2 w ∧ PV (sKeep u 0).2 w ∧ (sKeep u 0).2 10 0 0 = u 10 0 0 := by
  obtain ⟨c1, c2, c3, c4, c5, c6, c7, c8, c9⟩ := h
  obtain ⟨k1, k2, k3, k4, k5⟩ := kp0_ok c1 c4 c5
  refine ⟨k1, ⟨c1, k2, c4, c5, c6, fun r r0 r1 h6 => by rw [(c7 r h6).1]; exact h17 r r0 r1, c8, c9, k3, k4, k5⟩, PG_cS c2 (fun k i j q c => by rw [k3 k (by omega)]), PV_cE c3 (fun k i j q => by rw [k3 k (by omega)]), by rw [k3 10 (by decide)]⟩
