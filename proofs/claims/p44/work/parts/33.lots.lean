/-! lots -/
def ltN (s : Int) : Nat → Int
  | 0 => s
  | k + 1 => ltN s k * 48271 % 2147483647
def ltZ (s k : Int) : Int := ltN s k.toNat
theorem ltZ_s (s : Int) {k : Int} (h : 0 ≤ k) : ltZ s (k + 1) = ltZ s k * 48271 % 2147483647 := by
  unfold ltZ
  rw [show (k + 1).toNat = k.toNat + 1 by omega]; rfl
theorem ltN_r {s : Int} (hs : 0 ≤ s ∧ s < 2147483647) : ∀ k : Nat, 0 ≤ ltN s k ∧ ltN s k < 2147483647
  | 0 => hs
  | k + 1 => by
    have := ltN_r hs k
    show 0 ≤ ltN s k * 48271 % 2147483647 ∧ ltN s k * 48271 % 2147483647 < 2147483647
    omega
theorem ltZ_r {s : Int} (hs : 0 ≤ s ∧ s < 2147483647) (k : Int) : 0 ≤ ltZ s k ∧ ltZ s k < 2147483647 := ltN_r hs _
def duU (x : gX) (i : Int) : Int := if x 6 i 0 = -9 then 2 else if x 5 i 0 < 3 then 1 else 3
/-- one deed by lot -/
def loM (x : gX) (L : Int) : gX := if L % 3 = 0 then perM x 0 (L / 8 % 11 - 5) else perM x (duU x (L / 8 % x 10 0 0)) (L / 8 % x 10 0 0)
def loN (x : gX) (s : Int) : Nat → gX
  | 0 => x
  | k + 1 => loM (loN x s k) (ltN s (k + 1))
def loZ (x : gX) (s k : Int) : gX := loN x s k.toNat
theorem loZ_s (x : gX) (s : Int) {k : Int} (h : 0 ≤ k) : loZ x s (k + 1) = loM (loZ x s k) (ltZ s (k + 1)) := by
  unfold loZ ltZ
  rw [show (k + 1).toNat = k.toNat + 1 by omega]; rfl
theorem perM_16 (x : gX) (w h : Int) : perM x w h 16 0 0 = x 16 0 0 + 1 := by
  unfold perM
  rw [actM_k (by decide) (by decide) (by decide) (by decide), xU_same]
theorem wOK_lo {x : gX} {L : Int} (hN : NOK x) (h10 : x 10 0 0 ≠ 0) (h0 : 0 ≤ L) : (L % 3 = 0 → wOK x 0 (L / 8 % 11 - 5)) ∧ (L % 3 ≠ 0 → (0 ≤ L / 8 % x 10 0 0 ∧ L / 8 % x 10 0 0 < x 10 0 0) ∧ wOK x (duU x (L / 8 % x 10 0 0)) (L / 8 % x 10 0 0)) := by
  refine ⟨fun _ => by unfold wOK; omega, fun _ => ?_⟩
  have hp : 0 < x 10 0 0 := by have := hN.2.1; omega
  have a := Int.emod_nonneg (L / 8) (show x 10 0 0 ≠ 0 by omega)
  have b := Int.emod_lt_of_pos (L / 8) hp
  exact ⟨⟨a, b⟩, by unfold wOK duU; (repeat' split) <;> omega⟩
theorem loM_NOK {x : gX} {L : Int} (hN : NOK x) (h10 : x 10 0 0 ≠ 0) (h0 : 0 ≤ L) : NOK (loM x L) := by
  have q := wOK_lo hN h10 h0
  unfold loM
  split
  · rename_i e; exact perM_NOK hN (q.1 e) (fun w => absurd w (by decide))
  · rename_i e
    refine perM_NOK hN (q.2 e).2 (fun w => ?_)
    unfold duU at w
    split at w
    · omega
    · split at w <;> omega
theorem loM_10 (x : gX) (L : Int) : loM x L 10 = x 10 := by
  unfold loM; split <;> exact perM_at x _ _ (by decide) (by decide) (by decide) (by decide) (by decide) (by decide) (by decide)
theorem loM_16 (x : gX) (L : Int) : loM x L 16 0 0 = x 16 0 0 + 1 := by unfold loM; split <;> exact perM_16 x _ _
theorem loN_ok {x : gX} {s : Int} (hs : 0 ≤ s ∧ s < 2147483647) (hN : NOK x) (h10 : x 10 0 0 ≠ 0) : ∀ k : Nat, NOK (loN x s k) ∧ loN x s k 10 = x 10 ∧ loN x s k 16 0 0 = x 16 0 0 + k
  | 0 => ⟨hN, rfl, by simp [loN]⟩
  | k + 1 => by
    obtain ⟨a, b, c⟩ := loN_ok hs hN h10 k
    refine ⟨loM_NOK a (by rw [b]; exact h10) (ltN_r hs (k + 1)).1, (loM_10 _ _).trans b, ?_⟩
    show loM _ _ 16 0 0 = _
    rw [loM_16, c]; omega
theorem loZ_ok {x : gX} {s k : Int} (hs : 0 ≤ s ∧ s < 2147483647) (hN : NOK x) (h10 : x 10 0 0 ≠ 0) (hk : 0 ≤ k) : NOK (loZ x s k) ∧ loZ x s k 10 = x 10 ∧ loZ x s k 16 0 0 = x 16 0 0 + k := by
  have := loN_ok hs hN h10 k.toNat
  rw [Int.toNat_of_nonneg hk] at this
  exact this
theorem loM_e {x : gX} {L : Int} (h : L % 3 = 0) : perM x 0 (L / 8 % 11 - 5) = loM x L := by unfold loM; rw [if_pos h]
theorem loM_n {x : gX} {L n : Int} (h : L % 3 ≠ 0) (e : x 10 0 0 = n) : perM x (if x 6 (L / 8 % n) 0 = -9 then 2 else if x 5 (L / 8 % n) 0 < 3 then 1 else 3) (L / 8 % n) = loM x L := by unfold loM; rw [if_neg h, e]; rfl
def sLots (x : gX) (n s : Int) : Int × gX := if n < 1 ∨ 20 < n ∨ s < 1 ∨ 2147483646 < s then (-1, x) else if x 10 0 0 = 0 then (-4, x) else if ¬ x 16 0 0 ≤ 40 - n then (-2, x) else (twU (loZ x s n) - twU x, loZ x s n)
theorem twU_r {x : gX} (hN : NOK x) : 0 ≤ twU x ∧ twU x ≤ 6 := by
  have a : 0 ≤ twU x ∧ twU x ≤ x 10 0 0 := cntZ_r hN.2.1.1
  have := hN.2.1
  omega
/-! what is counted -/
def hmU (x : gX) (o n : Int) : Int := sumZ (fun r => if x 17 (o + r) 0 = -1 then 0 else 1) n
def ckU (x : gX) : Int := sumZ (fun k => if x 16 (1 + k) 0 = -1 then 0 else 1) 3
def ctU (x : gX) (w : Int) : Int := if w = 0 then x 10 0 0 else if w = 1 then x 15 0 0 else if w = 2 then x 16 0 0 else if w = 3 then trU x else if w = 4 then tcU x else if w = 5 then twU x else if w = 6 then saU x else if w = 7 then plU x else if w = 8 then hmU x 0 6 else if w = 9 then hmU x 6 4 else if w = 10 then ckU x else -1
theorem cnt01 {P : Int → Prop} [DecidablePred P] {n : Int} (h0 : 0 ≤ n) : 0 ≤ sumZ (fun i => if P i then 0 else 1) n ∧ sumZ (fun i => if P i then 0 else 1) n ≤ n := by
  have := sumZ_range (f := fun i => if P i then 0 else 1) (a := 0) (b := 1) h0 (fun i _ _ => by show 0 ≤ (if P i then (0 : Int) else 1) ∧ (if P i then (0 : Int) else 1) ≤ 1; split <;> omega)
  omega
theorem trU_r {x : gX} (hN : NOK x) : 0 ≤ trU x ∧ trU x < 64 := by
  have a : 0 ≤ trU x ∧ trU x < p2 (x 10 0 0) := bitZ_r (P := fun i => x 6 i 0 ≠ -9) hN.2.1.1
  have b := p2_mono hN.2.1.2
  have c : p2 6 = 64 := by decide +kernel
  omega
theorem saU_r {x : gX} (hN : NOK x) : 0 ≤ saU x ∧ saU x ≤ 600 := by
  have a : 0 * x 10 0 0 ≤ saU x ∧ saU x ≤ 100 * x 10 0 0 := sumZ_range hN.2.1.1 (fun i h0 h1 => by have := hN.2.2.2 i h0 h1; show 0 ≤ x 5 i 0 ∧ x 5 i 0 ≤ 100; omega)
  have := hN.2.1
  omega
theorem plU_r {x : gX} (hN : NOK x) : 0 ≤ plU x ∧ plU x ≤ 6 := by
  have a : 0 ≤ plU x ∧ plU x ≤ x 10 0 0 := cntZ_r hN.2.1.1
  have := hN.2.1
  omega
theorem ctU_r {x : gX} (hN : NOK x) (hD : 0 ≤ x 16 0 0 ∧ x 16 0 0 ≤ 40) (w : Int) : -1 ≤ ctU x w ∧ ctU x w ≤ 1000 := by
  have a := trU_r hN
  have b := tcU_r2 hN.2.1
  have c := twU_r hN
  have d := saU_r hN
  have e := plU_r hN
  have f : 0 ≤ hmU x 0 6 ∧ hmU x 0 6 ≤ 6 := cnt01 (by decide)
  have g : 0 ≤ hmU x 6 4 ∧ hmU x 6 4 ≤ 4 := cnt01 (by decide)
  have h : 0 ≤ ckU x ∧ ckU x ≤ 3 := cnt01 (by decide)
  have i := hN.2.1
  have j := hN.2.2.1
  unfold ctU; (repeat' split) <;> omega
def sFindings (x : gX) (f : Int) : Int := if f < 1 ∨ 5 < f then -1 else x 26 0 f
/-! digests -/
def drN (x : gX) (h : Int) : Nat → Int
  | 0 => h
  | k + 1 => dgZ (fun q => x 20 (k : Int) q) (31 * drN x h k + x 17 (k : Int) 0) (x 17 (k : Int) 0)
def drZ (x : gX) (h n : Int) : Int := drN x h n.toNat
theorem drZ_s (x : gX) (h : Int) {r : Int} (hr : 0 ≤ r) : drZ x h (r + 1) = dgZ (fun q => x 20 r q) (31 * drZ x h r + x 17 r 0) (x 17 r 0) := by
  unfold drZ
  rw [show (r + 1).toNat = r.toNat + 1 by omega]
  show dgZ (fun q => x 20 (r.toNat : Int) q) (31 * drN x h r.toNat + x 17 (r.toNat : Int) 0) (x 17 (r.toNat : Int) 0) = _
  rw [Int.toNat_of_nonneg hr]
def dg1 (x : gX) : Int := dgZ (fun k => ctU x k) 17 11
def dg2 (x : gX) : Int := dgZ (fun q => dU x (q / 9) (q % 9)) (dg1 x) (9 * x 10 0 0)
def dg3 (x : gX) : Int := dgZ (fun k => x 16 (1 + k) 0) (dg2 x) 3
def sDigest (x : gX) : Int := drZ x (dg3 x) 10
theorem dU_r {x : gX} {i w : Int} (hN : NOK x) (hm : MOK x i) : -9 ≤ dU x i w ∧ dU x i w ≤ 300 := by
  have a := bU_r hN.1 hm (h := x 15 0 0) (by have := hN.2.2.1; omega)
  have b := sHard_r (k := x 1 i 0) hm.2.2.2.1
  unfold dU; (repeat' split) <;> omega
set_option maxHeartbeats 4000000 in
set_option maxRecDepth 20000 in
theorem c_X7_lots (l : Launch) (D : gD) (ad : gA) (x : gX) (y : gY) (n s : Int) (hn : i32 n) (hs : i32 s) (hV : INV x) : gC l D ad 6 yX7_lots cX7_lots 9 (some .int) [.ref (ad 7 (0)), .int (J (n)), .int (J (s))] x y (pI ((sLots x n s).1) ((sLots x n s).2) (y)) := by
  refine g_met RX7 rfl (by decide +kernel) [(0, .ref (ad 7 (0))), (1, .int (J (n))), (2, .int (J (s)))] rfl (Nat.le_of_ble_eq_true rfl) (fun Θ F hR => ?_)
  obtain ⟨hN, hRW, hDD, hCU, hMS⟩ := hV
  have hds := hDD.1.1
  refine g_iload_n F dX7_lots_0 rfl 1 rfl ?_
  refine g_iconst F dX7_lots_1 (1) (by decide) ?_
  refine g_icmp_lt 23 F dX7_lots_2 (by omega) (by decide) rfl (fun c_1 => ?_) (fun c_1 => ?_)
  · skip
    refine g_iconst F dX7_lots_23 (-1) (by decide) ?_
    exact g_ireturn F hR dX7_lots_24 (pI_i (by unfold sLots; first | (rw [if_pos (by omega)]; done) | (rw [if_neg (by omega), if_pos (by omega)]; done) | (rw [if_neg (by omega), if_neg (by omega), if_pos (by omega)]; done) | (rw [if_neg (by omega), if_neg (by omega), if_neg (by omega), show j = n by omega])) (by unfold sLots; first | (rw [if_pos (by omega)]; done) | (rw [if_neg (by omega), if_pos (by omega)]; done) | (rw [if_neg (by omega), if_neg (by omega), if_pos (by omega)]; done) | (rw [if_neg (by omega), if_neg (by omega), if_neg (by omega), show j = n by omega])) rfl)
  · skip
    refine g_iload_n F dX7_lots_5 rfl 1 rfl ?_
    refine g_bipush F dX7_lots_6 (20) (by decide) ?_
    refine g_icmp_gt 23 F dX7_lots_8 (by omega) (by decide) rfl (fun c_2 => ?_) (fun c_2 => ?_)
    · skip
      refine g_iconst F dX7_lots_23 (-1) (by decide) ?_
      exact g_ireturn F hR dX7_lots_24 (pI_i (by unfold sLots; first | (rw [if_pos (by omega)]; done) | (rw [if_neg (by omega), if_pos (by omega)]; done) | (rw [if_neg (by omega), if_neg (by omega), if_pos (by omega)]; done) | (rw [if_neg (by omega), if_neg (by omega), if_neg (by omega), show j = n by omega])) (by unfold sLots; first | (rw [if_pos (by omega)]; done) | (rw [if_neg (by omega), if_pos (by omega)]; done) | (rw [if_neg (by omega), if_neg (by omega), if_pos (by omega)]; done) | (rw [if_neg (by omega), if_neg (by omega), if_neg (by omega), show j = n by omega])) rfl)
    · skip
      refine g_iload_n F dX7_lots_11 rfl 2 rfl ?_
      refine g_iconst F dX7_lots_12 (1) (by decide) ?_
      refine g_icmp_lt 23 F dX7_lots_13 (by omega) (by decide) rfl (fun c_3 => ?_) (fun c_3 => ?_)
      · skip
        refine g_iconst F dX7_lots_23 (-1) (by decide) ?_
        exact g_ireturn F hR dX7_lots_24 (pI_i (by unfold sLots; first | (rw [if_pos (by omega)]; done) | (rw [if_neg (by omega), if_pos (by omega)]; done) | (rw [if_neg (by omega), if_neg (by omega), if_pos (by omega)]; done) | (rw [if_neg (by omega), if_neg (by omega), if_neg (by omega), show j = n by omega])) (by unfold sLots; first | (rw [if_pos (by omega)]; done) | (rw [if_neg (by omega), if_pos (by omega)]; done) | (rw [if_neg (by omega), if_neg (by omega), if_pos (by omega)]; done) | (rw [if_neg (by omega), if_neg (by omega), if_neg (by omega), show j = n by omega])) rfl)
      · skip
        refine g_iload_n F dX7_lots_16 rfl 2 rfl ?_
        refine g_ldc_w F ck_X7_293 dX7_lots_17 (2147483646) (by decide) ?_
        refine g_icmp_le 25 F dX7_lots_20 (by omega) (by decide) rfl (fun c_4 => ?_) (fun c_4 => ?_)
        · skip
          refine g_aload_n F dX7_lots_25 rfl 0 rfl ?_
          refine gg_Day_court F fk_X7_28 dX7_lots_26 ?_
          refine ggN_Court_size F fk_X7_121 dX7_lots_29 ?_
          refine g_if_ne 38 F dX7_lots_32 (by omega) rfl (fun c_5 => ?_) (fun c_5 => ?_)
          · skip
            refine g_aload_n F dX7_lots_38 rfl 0 rfl ?_
            refine gg_Day_court F fk_X7_28 dX7_lots_39 ?_
            refine ggN_Court_deeds F fk_X7_166 dX7_lots_42 ?_
            refine g_iload_n F dX7_lots_45 rfl 1 rfl ?_
            refine g_callV 1 F (As := [.int (J (n))]) (st := []) (c_X1_hasRoomFor l D ad x y (0) (n) (by omega) (by omega) (by omega)) (gR_1 (by decide)) rfl mk_X7_170 ki_X1_hasRoomFor kc_X1_hasRoomFor (by decide +kernel) rfl (by decide) dX7_lots_46 rfl (Nat.le_of_ble_eq_true rfl) (pB_k ?_)
            refine g_ifb_ne 55 F dX7_lots_49 rfl (fun c_6 => ?_) (fun c_6 => ?_)
            · skip
              refine g_aload_n F dX7_lots_55 rfl 0 rfl ?_
              refine gg_Day_court F fk_X7_28 dX7_lots_56 ?_
              refine g_callV 0 F (As := []) (st := []) (c_X0_toldWrongly l D ad x y  (hN)) (gR_0) rfl mk_X7_294 ki_X0_toldWrongly kc_X0_toldWrongly (by decide +kernel) rfl (by decide) dX7_lots_59 rfl (Nat.le_of_ble_eq_true rfl) (pI_k ?_)
              refine g_istore_n F [(3, .int (J (twU x))), (0, .ref (ad 7 (0))), (1, .int (J (n))), (2, .int (J (s)))] dX7_lots_62 rfl (by decide) rfl ?_
              refine g_iload_n F dX7_lots_63 rfl 3 rfl ?_
              refine g_i2l F dX7_lots_64 (by omega) ?_
              refine g_lstore F [(4, .long (Lg (s))), (3, .int (J (twU x))), (0, .ref (ad 7 (0))), (1, .int (J (n))), (2, .int (J (s)))] dX7_lots_65 (by decide) rfl ?_
              refine g_iconst F dX7_lots_67 (0) (by decide) ?_
              refine g_istore F [(6, .int (J (0))), (4, .long (Lg (s))), (3, .int (J (twU x))), (0, .ref (ad 7 (0))), (1, .int (J (n))), (2, .int (J (s)))] dX7_lots_68 (by decide) rfl ?_
              have L70 : ∀ (N : Nat) (j : Int), 0 ≤ j ∧ j ≤ n → (n - j).toNat < N → gW Θ l D ad 9 70 [(0, .ref (ad 7 (0))), (1, .int (J (n))), (3, .int (J (twU x))), (4, .long (Lg (ltZ s j))), (6, .int (J (j)))] [] (loZ x s j) y := by
                intro N
                induction N with
                | zero => intro j hj hFu; omega
                | succ N ih70 =>
                  intro j hj hFu
                  have hZ : NOK (loZ x s j) ∧ loZ x s j 10 = x 10 ∧ loZ x s j 16 0 0 = x 16 0 0 + j := loZ_ok (by omega) hN (by omega) (by omega)
                  have hL := ltZ_r (s := s) (by omega) j
                  have hL1 := ltZ_r (s := s) (by omega) (j + 1)
                  have hLs := ltZ_s s hj.1
                  have e10 : loZ x s j 10 0 0 = x 10 0 0 := by rw [hZ.2.1]
                  have hwo := wOK_lo (L := ltZ s (j + 1)) hZ.1 (by omega) hL1.1
                  refine g_iload F dX7_lots_70 4 rfl ?_
                  refine g_iload_n F dX7_lots_72 rfl 1 rfl ?_
                  refine g_icmp_ge 166 F dX7_lots_73 (by omega) (by omega) rfl (fun c_7 => ?_) (fun c_7 => ?_)
                  · skip
                    refine g_aload_n F dX7_lots_166 rfl 0 rfl ?_
                    refine gg_Day_court F fk_X7_28 dX7_lots_167 ?_
                    refine g_callV 0 F (As := []) (st := []) (c_X0_toldWrongly l D ad (loZ x s j) y  (hZ.1)) (gR_0) rfl mk_X7_294 ki_X0_toldWrongly kc_X0_toldWrongly (by decide +kernel) rfl (by decide) dX7_lots_170 rfl (Nat.le_of_ble_eq_true rfl) (pI_k ?_)
                    have ht0 := twU_r hN
                    have ht1 := twU_r hZ.1
                    refine g_iload_n F dX7_lots_173 rfl 2 rfl ?_
                    refine g_isub F dX7_lots_174 ?_
                    exact g_ireturn F hR dX7_lots_175 (pI_i (by unfold sLots; first | (rw [if_pos (by omega)]; done) | (rw [if_neg (by omega), if_pos (by omega)]; done) | (rw [if_neg (by omega), if_neg (by omega), if_pos (by omega)]; done) | (rw [if_neg (by omega), if_neg (by omega), if_neg (by omega), show j = n by omega])) (by unfold sLots; first | (rw [if_pos (by omega)]; done) | (rw [if_neg (by omega), if_pos (by omega)]; done) | (rw [if_neg (by omega), if_neg (by omega), if_pos (by omega)]; done) | (rw [if_neg (by omega), if_neg (by omega), if_neg (by omega), show j = n by omega])) rfl)
                  · skip
                    refine g_lload F dX7_lots_76 3 rfl ?_
                    refine g_ldc2 F ck_X7_297 dX7_lots_78 (48271) (by decide) ?_
                    refine g_lmul F dX7_lots_81 ?_
                    refine g_ldc2 F ck_X7_299 dX7_lots_82 (2147483647) (by decide) ?_
                    refine g_lremp F dX7_lots_85 (by omega) (by decide) (by omega) (by decide) ?_
                    refine g_topl (b := ltZ s (j + 1)) (hLs.symm) ?_
                    refine g_lstore F [(4, .long (Lg (ltZ s (j + 1)))), (0, .ref (ad 7 (0))), (1, .int (J (n))), (3, .int (J (twU x))), (6, .int (J (j)))] dX7_lots_86 (by decide) rfl ?_
                    have hdi : 0 ≤ ltZ s (j + 1) / 8 ∧ ltZ s (j + 1) / 8 < 2147483647 := by omega
                    refine g_lload F dX7_lots_88 0 rfl ?_
                    refine g_ldc2 F ck_X7_301 dX7_lots_90 (8) (by decide) ?_
                    refine g_ldivp F dX7_lots_93 (by omega) (by decide) (by omega) (by decide) ?_
                    refine g_l2i F dX7_lots_94 ?_
                    refine g_istore F [(7, .int (J ((ltZ s (j + 1)) / (8)))), (4, .long (Lg (ltZ s (j + 1)))), (0, .ref (ad 7 (0))), (1, .int (J (n))), (3, .int (J (twU x))), (6, .int (J (j)))] dX7_lots_95 (by decide) rfl ?_
                    refine g_lload F dX7_lots_97 1 rfl ?_
                    refine g_ldc2 F ck_X7_303 dX7_lots_99 (3) (by decide) ?_
                    refine g_lremp F dX7_lots_102 (by omega) (by decide) (by omega) (by decide) ?_
                    refine g_lconst F dX7_lots_103 0 (by decide) ?_
                    refine g_lcmp_ne 126 F dX7_lots_104 dX7_lots_105 (by omega) (by decide) rfl (fun c_8 => ?_) (fun c_8 => ?_)
                    · skip
                      have hwm := (hwo.2 (by omega)).1
                      rw [e10] at hwm
                      refine g_iload F dX7_lots_126 0 rfl ?_
                      refine g_aload_n F dX7_lots_128 rfl 2 rfl ?_
                      refine gg_Day_court F fk_X7_28 dX7_lots_129 ?_
                      refine ggN_Court_size F fk_X7_121 dX7_lots_132 ?_
                      refine g_topi (b := x 10 0 0) (by rw [hZ.2.1]) ?_
                      refine g_iremp F dX7_lots_135 (by omega) (by omega) (by omega) (by omega) ?_
                      refine g_istore F [(8, .int (J (((ltZ s (j + 1)) / (8)) % (x 10 0 0)))), (7, .int (J ((ltZ s (j + 1)) / (8)))), (4, .long (Lg (ltZ s (j + 1)))), (0, .ref (ad 7 (0))), (1, .int (J (n))), (3, .int (J (twU x))), (6, .int (J (j)))] dX7_lots_136 (by decide) rfl ?_
                      refine g_aload_n F dX7_lots_138 rfl 3 rfl ?_
                      refine gg_Day_court F fk_X7_28 dX7_lots_139 ?_
                      refine g_aload_n F dX7_lots_142 rfl 3 rfl ?_
                      refine gg_Day_court F fk_X7_28 dX7_lots_143 ?_
                      refine ggN_Court_men F fk_X7_126 dX7_lots_146 ?_
                      refine g_iload F dX7_lots_149 0 rfl ?_
                      refine ga_32 F (by omega) dX7_lots_151 ?_
                      refine g_callV 0 F (As := []) (st := [.ref (ad 0 (0))]) (c_X3_dueByLot l D ad (loZ x s j) y ((((ltZ s (j + 1)) / (8)) % (x 10 0 0))) (by omega) (hZ.1.2.2.2 _ (by omega) (by omega))) (gR_3 (by omega)) rfl mk_X7_305 ki_X3_dueByLot kc_X3_dueByLot (by decide +kernel) rfl (by decide) dX7_lots_152 rfl (Nat.le_of_ble_eq_true rfl) (pI_k ?_)
                      refine g_iload F dX7_lots_155 0 rfl ?_
                      refine g_callV 2 F (As := [.int (J (if (loZ x s j) 6 ((((ltZ s (j + 1)) / (8)) % (x 10 0 0))) 0 = -9 then 2 else if (loZ x s j) 5 ((((ltZ s (j + 1)) / (8)) % (x 10 0 0))) 0 < 3 then 1 else 3)), .int (J (((ltZ s (j + 1)) / (8)) % (x 10 0 0)))]) (st := []) (c_X0_perform l D ad (loZ x s j) y (if (loZ x s j) 6 ((((ltZ s (j + 1)) / (8)) % (x 10 0 0))) 0 = -9 then 2 else if (loZ x s j) 5 ((((ltZ s (j + 1)) / (8)) % (x 10 0 0))) 0 < 3 then 1 else 3) (((ltZ s (j + 1)) / (8)) % (x 10 0 0)) (hZ.1) (by rw [hZ.2.2]; omega) (by have h2 := (hwo.2 (by omega)).2; rw [e10] at h2; exact h2) (fun q => by (have h3 : duU (loZ x s j) (ltZ s (j + 1) / 8 % x 10 0 0) = 1 := q); unfold duU at h3; (repeat' split at h3) <;> omega)) (gR_0) rfl mk_X7_173 ki_X0_perform kc_X0_perform (by decide +kernel) rfl (by decide) dX7_lots_157 rfl (Nat.le_of_ble_eq_true rfl) (pV_k ?_)
                      refine g_iinc F [(6, .int (J (j + 1))), (8, .int (J (((ltZ s (j + 1)) / (8)) % (x 10 0 0)))), (7, .int (J ((ltZ s (j + 1)) / (8)))), (4, .long (Lg (ltZ s (j + 1)))), (0, .ref (ad 7 (0))), (1, .int (J (n))), (3, .int (J (twU x)))] 6 rfl dX7_lots_160 (by decide) rfl ?_
                      refine g_goto F 70 dX7_lots_163 rfl ?_
                      refine g_sub [4, 5, 6, 3, 0] (lv' := [(0, .ref (ad 7 (0))), (1, .int (J (n))), (3, .int (J (twU x))), (4, .long (Lg (ltZ s (j + 1)))), (6, .int (J (j + 1)))]) rfl ?_
                      exact gW_eq (ih70 (j + 1) (by omega) (by omega)) rfl rfl rfl (by rw [loZ_s x s hj.1]; first | exact loM_e (by omega) | exact loM_n (by omega) e10) (rfl)
                    · skip
                      refine g_aload_n F dX7_lots_108 rfl 2 rfl ?_
                      refine gg_Day_court F fk_X7_28 dX7_lots_109 ?_
                      refine g_iconst F dX7_lots_112 (0) (by decide) ?_
                      refine g_iload F dX7_lots_113 0 rfl ?_
                      refine g_bipush F dX7_lots_115 (11) (by decide) ?_
                      refine g_iremp F dX7_lots_117 (by omega) (by decide) (by omega) (by decide) ?_
                      refine g_iconst F dX7_lots_118 (5) (by decide) ?_
                      refine g_isub F dX7_lots_119 ?_
                      refine g_callV 2 F (As := [.int (J (0)), .int (J ((((ltZ s (j + 1)) / (8)) % (11)) - (5)))]) (st := []) (c_X0_perform l D ad (loZ x s j) y (0) ((((ltZ s (j + 1)) / (8)) % (11)) - (5)) (hZ.1) (by rw [hZ.2.2]; omega) (hwo.1 (by omega)) (fun q => absurd q (by decide))) (gR_0) rfl mk_X7_173 ki_X0_perform kc_X0_perform (by decide +kernel) rfl (by decide) dX7_lots_120 rfl (Nat.le_of_ble_eq_true rfl) (pV_k ?_)
                      refine g_goto F 160 dX7_lots_123 rfl ?_
                      refine g_iinc F [(6, .int (J (j + 1))), (7, .int (J ((ltZ s (j + 1)) / (8)))), (4, .long (Lg (ltZ s (j + 1)))), (0, .ref (ad 7 (0))), (1, .int (J (n))), (3, .int (J (twU x)))] 5 rfl dX7_lots_160 (by decide) rfl ?_
                      refine g_goto F 70 dX7_lots_163 rfl ?_
                      refine g_sub [3, 4, 5, 2, 0] (lv' := [(0, .ref (ad 7 (0))), (1, .int (J (n))), (3, .int (J (twU x))), (4, .long (Lg (ltZ s (j + 1)))), (6, .int (J (j + 1)))]) rfl ?_
                      exact gW_eq (ih70 (j + 1) (by omega) (by omega)) rfl rfl rfl (by rw [loZ_s x s hj.1]; first | exact loM_e (by omega) | exact loM_n (by omega) e10) (rfl)
              refine g_sub [3, 4, 2, 1, 0] (lv' := [(0, .ref (ad 7 (0))), (1, .int (J (n))), (3, .int (J (twU x))), (4, .long (Lg (s))), (6, .int (J (0)))]) rfl ?_
              exact L70 _ (0) (by omega) (Nat.lt_succ_self _)
            · skip
              refine g_bipush F dX7_lots_52 (-2) (by decide) ?_
              exact g_ireturn F hR dX7_lots_54 (pI_i (by unfold sLots; first | (rw [if_pos (by omega)]; done) | (rw [if_neg (by omega), if_pos (by omega)]; done) | (rw [if_neg (by omega), if_neg (by omega), if_pos (by omega)]; done) | (rw [if_neg (by omega), if_neg (by omega), if_neg (by omega), show j = n by omega])) (by unfold sLots; first | (rw [if_pos (by omega)]; done) | (rw [if_neg (by omega), if_pos (by omega)]; done) | (rw [if_neg (by omega), if_neg (by omega), if_pos (by omega)]; done) | (rw [if_neg (by omega), if_neg (by omega), if_neg (by omega), show j = n by omega])) rfl)
          · skip
            refine g_bipush F dX7_lots_35 (-4) (by decide) ?_
            exact g_ireturn F hR dX7_lots_37 (pI_i (by unfold sLots; first | (rw [if_pos (by omega)]; done) | (rw [if_neg (by omega), if_pos (by omega)]; done) | (rw [if_neg (by omega), if_neg (by omega), if_pos (by omega)]; done) | (rw [if_neg (by omega), if_neg (by omega), if_neg (by omega), show j = n by omega])) (by unfold sLots; first | (rw [if_pos (by omega)]; done) | (rw [if_neg (by omega), if_pos (by omega)]; done) | (rw [if_neg (by omega), if_neg (by omega), if_pos (by omega)]; done) | (rw [if_neg (by omega), if_neg (by omega), if_neg (by omega), show j = n by omega])) rfl)
        · skip
          refine g_iconst F dX7_lots_23 (-1) (by decide) ?_
          exact g_ireturn F hR dX7_lots_24 (pI_i (by unfold sLots; first | (rw [if_pos (by omega)]; done) | (rw [if_neg (by omega), if_pos (by omega)]; done) | (rw [if_neg (by omega), if_neg (by omega), if_pos (by omega)]; done) | (rw [if_neg (by omega), if_neg (by omega), if_neg (by omega), show j = n by omega])) (by unfold sLots; first | (rw [if_pos (by omega)]; done) | (rw [if_neg (by omega), if_pos (by omega)]; done) | (rw [if_neg (by omega), if_neg (by omega), if_pos (by omega)]; done) | (rw [if_neg (by omega), if_neg (by omega), if_neg (by omega), show j = n by omega])) rfl)

set_option maxRecDepth 20000 in
theorem c_X7_howManyThere_R (l : Launch) (D : gD) (ad : gA) (x : gX) (y : gY)  (hRW : RWI x) : gC l D ad 1 yX7_howManyThere cX7_howManyThere 3 (some .int) [.ref (ad 30 (0))] x y (pI (hmU x 0 6) (x) (y)) := by
  refine g_met RX7 rfl (by decide +kernel) [(0, .ref (ad 30 (0)))] rfl (Nat.le_of_ble_eq_true rfl) (fun Θ F hR => ?_)
  refine g_iconst F dX7_howManyThere_0 (0) (by decide) ?_
  refine g_istore_n F [(1, .int (J (0))), (0, .ref (ad 30 (0)))] dX7_howManyThere_1 rfl (by decide) rfl ?_
  refine g_iconst F dX7_howManyThere_2 (0) (by decide) ?_
  refine g_istore_n F [(2, .int (J (0))), (1, .int (J (0))), (0, .ref (ad 30 (0)))] dX7_howManyThere_3 rfl (by decide) rfl ?_
  have L4 : ∀ (N : Nat) (a : Int) (j : Int), 0 ≤ j ∧ j ≤ 6 → a = sumZ (fun r => if x 17 (0 + r) 0 = -1 then 0 else 1) j → (6 - j).toNat < N → gW Θ l D ad 3 4 [(0, .ref (ad 30 (0))), (1, .int (J (a))), (2, .int (J (j)))] [] x y := by
    intro N
    induction N with
    | zero => intro a j hj ha hFu; omega
    | succ N ih4 =>
      intro a j hj ha hFu
      refine g_iload_n F dX7_howManyThere_4 rfl 2 rfl ?_
      refine g_aload_n F dX7_howManyThere_5 rfl 0 rfl ?_
      refine gl_30 F dX7_howManyThere_6 ?_
      refine g_icmp_ge 33 F dX7_howManyThere_7 (by omega) (by decide) rfl (fun c_1 => ?_) (fun c_1 => ?_)
      · skip
        refine g_iload_n F dX7_howManyThere_33 rfl 1 rfl ?_
        exact g_ireturn F hR dX7_howManyThere_34 (pI_i (by exact ha.trans (by rw [show j = 6 by omega]; rfl)) rfl rfl)
      · skip
        have hw := hRW (j) (by omega) (by omega)
        have hw2 : -1 ≤ x 17 (j) 0 ∧ x 17 (j) 0 ≤ 60 := by have := hw.1; split at this <;> omega
        refine g_iload_n F dX7_howManyThere_10 rfl 1 rfl ?_
        refine g_aload_n F dX7_howManyThere_11 rfl 0 rfl ?_
        refine g_iload_n F dX7_howManyThere_12 rfl 2 rfl ?_
        refine ga_30 F (by omega) dX7_howManyThere_13 ?_
        refine g_callV 0 F (As := []) (st := [.int (J (a))]) (c_X6_isMissing l D ad x y (j) (by omega) (hw.1)) (gR_6 (by omega)) rfl mk_X7_94 ki_X6_isMissing kc_X6_isMissing (by decide +kernel) rfl (by decide) dX7_howManyThere_14 rfl (Nat.le_of_ble_eq_true rfl) (pB_k ?_)
        refine g_ifb_eq 24 F dX7_howManyThere_17 rfl (fun c_2 => ?_) (fun c_2 => ?_)
        · skip
          refine g_iconst F dX7_howManyThere_24 (1) (by decide) ?_
          refine g_iadd F dX7_howManyThere_25 ?_
          refine g_istore_n F [(1, .int (J ((a) + (1)))), (0, .ref (ad 30 (0))), (2, .int (J (j)))] dX7_howManyThere_26 rfl (by decide) rfl ?_
          refine g_iinc F [(2, .int (J (j + 1))), (1, .int (J ((a) + (1)))), (0, .ref (ad 30 (0)))] 2 rfl dX7_howManyThere_27 (by decide) rfl ?_
          refine g_goto F 4 dX7_howManyThere_30 rfl ?_
          refine g_sub [2, 1, 0] (lv' := [(0, .ref (ad 30 (0))), (1, .int (J ((a) + (1)))), (2, .int (J (j + 1)))]) rfl ?_
          exact ih4 ((a) + (1)) (j + 1) (by omega) (by rw [sumZ_s _ (by omega), ← ha]; simp only [Int.zero_add]; (repeat' split) <;> first | omega | contradiction) (by omega)
        · skip
          refine g_iconst F dX7_howManyThere_20 (0) (by decide) ?_
          refine g_goto F 25 dX7_howManyThere_21 rfl ?_
          refine g_iadd F dX7_howManyThere_25 ?_
          refine g_istore_n F [(1, .int (J ((a) + (0)))), (0, .ref (ad 30 (0))), (2, .int (J (j)))] dX7_howManyThere_26 rfl (by decide) rfl ?_
          refine g_iinc F [(2, .int (J (j + 1))), (1, .int (J ((a) + (0)))), (0, .ref (ad 30 (0)))] 2 rfl dX7_howManyThere_27 (by decide) rfl ?_
          refine g_goto F 4 dX7_howManyThere_30 rfl ?_
          refine g_sub [2, 1, 0] (lv' := [(0, .ref (ad 30 (0))), (1, .int (J ((a) + (0)))), (2, .int (J (j + 1)))]) rfl ?_
          exact ih4 ((a) + (0)) (j + 1) (by omega) (by rw [sumZ_s _ (by omega), ← ha]; simp only [Int.zero_add]; (repeat' split) <;> first | omega | contradiction) (by omega)
  refine g_sub [2, 1, 0] (lv' := [(0, .ref (ad 30 (0))), (1, .int (J (0))), (2, .int (J (0)))]) rfl ?_
  exact L4 _ (0) (0) (by omega) (rfl) (Nat.lt_succ_self _)

set_option maxRecDepth 20000 in
theorem c_X7_howManyThere_T (l : Launch) (D : gD) (ad : gA) (x : gX) (y : gY)  (hRW : RWI x) : gC l D ad 1 yX7_howManyThere cX7_howManyThere 3 (some .int) [.ref (ad 31 (0))] x y (pI (hmU x 6 4) (x) (y)) := by
  refine g_met RX7 rfl (by decide +kernel) [(0, .ref (ad 31 (0)))] rfl (Nat.le_of_ble_eq_true rfl) (fun Θ F hR => ?_)
  refine g_iconst F dX7_howManyThere_0 (0) (by decide) ?_
  refine g_istore_n F [(1, .int (J (0))), (0, .ref (ad 31 (0)))] dX7_howManyThere_1 rfl (by decide) rfl ?_
  refine g_iconst F dX7_howManyThere_2 (0) (by decide) ?_
  refine g_istore_n F [(2, .int (J (0))), (1, .int (J (0))), (0, .ref (ad 31 (0)))] dX7_howManyThere_3 rfl (by decide) rfl ?_
  have L4 : ∀ (N : Nat) (a : Int) (j : Int), 0 ≤ j ∧ j ≤ 4 → a = sumZ (fun r => if x 17 (6 + r) 0 = -1 then 0 else 1) j → (4 - j).toNat < N → gW Θ l D ad 3 4 [(0, .ref (ad 31 (0))), (1, .int (J (a))), (2, .int (J (j)))] [] x y := by
    intro N
    induction N with
    | zero => intro a j hj ha hFu; omega
    | succ N ih4 =>
      intro a j hj ha hFu
      refine g_iload_n F dX7_howManyThere_4 rfl 2 rfl ?_
      refine g_aload_n F dX7_howManyThere_5 rfl 0 rfl ?_
      refine gl_31 F dX7_howManyThere_6 ?_
      refine g_icmp_ge 33 F dX7_howManyThere_7 (by omega) (by decide) rfl (fun c_1 => ?_) (fun c_1 => ?_)
      · skip
        refine g_iload_n F dX7_howManyThere_33 rfl 1 rfl ?_
        exact g_ireturn F hR dX7_howManyThere_34 (pI_i (by exact ha.trans (by rw [show j = 4 by omega]; rfl)) rfl rfl)
      · skip
        have hw := hRW (6 + j) (by omega) (by omega)
        have hw2 : -1 ≤ x 17 (6 + j) 0 ∧ x 17 (6 + j) 0 ≤ 60 := by have := hw.1; split at this <;> omega
        refine g_iload_n F dX7_howManyThere_10 rfl 1 rfl ?_
        refine g_aload_n F dX7_howManyThere_11 rfl 0 rfl ?_
        refine g_iload_n F dX7_howManyThere_12 rfl 2 rfl ?_
        refine ga_31 F (by omega) dX7_howManyThere_13 ?_
        refine g_callV 0 F (As := []) (st := [.int (J (a))]) (c_X6_isMissing l D ad x y (6 + j) (by omega) (hw.1)) (gR_6 (by omega)) rfl mk_X7_94 ki_X6_isMissing kc_X6_isMissing (by decide +kernel) rfl (by decide) dX7_howManyThere_14 rfl (Nat.le_of_ble_eq_true rfl) (pB_k ?_)
        refine g_ifb_eq 24 F dX7_howManyThere_17 rfl (fun c_2 => ?_) (fun c_2 => ?_)
        · skip
          refine g_iconst F dX7_howManyThere_24 (1) (by decide) ?_
          refine g_iadd F dX7_howManyThere_25 ?_
          refine g_istore_n F [(1, .int (J ((a) + (1)))), (0, .ref (ad 31 (0))), (2, .int (J (j)))] dX7_howManyThere_26 rfl (by decide) rfl ?_
          refine g_iinc F [(2, .int (J (j + 1))), (1, .int (J ((a) + (1)))), (0, .ref (ad 31 (0)))] 2 rfl dX7_howManyThere_27 (by decide) rfl ?_
          refine g_goto F 4 dX7_howManyThere_30 rfl ?_
          refine g_sub [2, 1, 0] (lv' := [(0, .ref (ad 31 (0))), (1, .int (J ((a) + (1)))), (2, .int (J (j + 1)))]) rfl ?_
          exact ih4 ((a) + (1)) (j + 1) (by omega) (by rw [sumZ_s _ (by omega), ← ha]; (repeat' split) <;> first | omega | contradiction) (by omega)
        · skip
          refine g_iconst F dX7_howManyThere_20 (0) (by decide) ?_
          refine g_goto F 25 dX7_howManyThere_21 rfl ?_
          refine g_iadd F dX7_howManyThere_25 ?_
          refine g_istore_n F [(1, .int (J ((a) + (0)))), (0, .ref (ad 31 (0))), (2, .int (J (j)))] dX7_howManyThere_26 rfl (by decide) rfl ?_
          refine g_iinc F [(2, .int (J (j + 1))), (1, .int (J ((a) + (0)))), (0, .ref (ad 31 (0)))] 2 rfl dX7_howManyThere_27 (by decide) rfl ?_
          refine g_goto F 4 dX7_howManyThere_30 rfl ?_
          refine g_sub [2, 1, 0] (lv' := [(0, .ref (ad 31 (0))), (1, .int (J ((a) + (0)))), (2, .int (J (j + 1)))]) rfl ?_
          exact ih4 ((a) + (0)) (j + 1) (by omega) (by rw [sumZ_s _ (by omega), ← ha]; (repeat' split) <;> first | omega | contradiction) (by omega)
  refine g_sub [2, 1, 0] (lv' := [(0, .ref (ad 31 (0))), (1, .int (J (0))), (2, .int (J (0)))]) rfl ?_
  exact L4 _ (0) (0) (by omega) (rfl) (Nat.lt_succ_self _)

set_option maxRecDepth 20000 in
theorem c_X7_courtsKept (l : Launch) (D : gD) (ad : gA) (x : gX) (y : gY)  (hDD : DDI x) : gC l D ad 0 yX7_courtsKept cX7_courtsKept 3 (some .int) [.ref (ad 7 (0))] x y (pI (ckU x) (x) (y)) := by
  refine g_met RX7 rfl (by decide +kernel) [(0, .ref (ad 7 (0)))] rfl (Nat.le_of_ble_eq_true rfl) (fun Θ F hR => ?_)
  refine g_iconst F dX7_courtsKept_0 (0) (by decide) ?_
  refine g_istore_n F [(1, .int (J (0))), (0, .ref (ad 7 (0)))] dX7_courtsKept_1 rfl (by decide) rfl ?_
  refine g_iconst F dX7_courtsKept_2 (0) (by decide) ?_
  refine g_istore_n F [(2, .int (J (0))), (1, .int (J (0))), (0, .ref (ad 7 (0)))] dX7_courtsKept_3 rfl (by decide) rfl ?_
  have L4 : ∀ (N : Nat) (a : Int) (j : Int), 0 ≤ j ∧ j ≤ 3 → a = sumZ (fun k => if x 16 (1 + k) 0 = -1 then 0 else 1) j → (3 - j).toNat < N → gW Θ l D ad 3 4 [(0, .ref (ad 7 (0))), (1, .int (J (a))), (2, .int (J (j)))] [] x y := by
    intro N
    induction N with
    | zero => intro a j hj ha hFu; omega
    | succ N ih4 =>
      intro a j hj ha hFu
      refine g_iload_n F dX7_courtsKept_4 rfl 2 rfl ?_
      refine g_iconst F dX7_courtsKept_5 (3) (by decide) ?_
      refine g_icmp_ge 36 F dX7_courtsKept_6 (by omega) (by decide) rfl (fun c_1 => ?_) (fun c_1 => ?_)
      · skip
        refine g_iload_n F dX7_courtsKept_36 rfl 1 rfl ?_
        exact g_ireturn F hR dX7_courtsKept_37 (pI_i (by exact ha.trans (by rw [show j = 3 by omega]; rfl)) rfl rfl)
      · skip
        have hk := hDD.1.2 (1 + j) (by omega) (by omega)
        refine g_iload_n F dX7_courtsKept_9 rfl 1 rfl ?_
        refine g_aload_n F dX7_courtsKept_10 rfl 0 rfl ?_
        refine gg_Day_kept F fk_X7_34 dX7_courtsKept_11 ?_
        refine g_iload_n F dX7_courtsKept_14 rfl 2 rfl ?_
        refine ga_33 F (by omega) dX7_courtsKept_15 ?_
        refine ggN_Deeds_size F (by omega) fk_X7_120 dX7_courtsKept_16 ?_
        refine g_iconst F dX7_courtsKept_19 (-1) (by decide) ?_
        refine g_icmp_ne 27 F dX7_courtsKept_20 (by omega) (by decide) rfl (fun c_2 => ?_) (fun c_2 => ?_)
        · skip
          refine g_iconst F dX7_courtsKept_27 (1) (by decide) ?_
          refine g_iadd F dX7_courtsKept_28 ?_
          refine g_istore_n F [(1, .int (J ((a) + (1)))), (0, .ref (ad 7 (0))), (2, .int (J (j)))] dX7_courtsKept_29 rfl (by decide) rfl ?_
          refine g_iinc F [(2, .int (J (j + 1))), (1, .int (J ((a) + (1)))), (0, .ref (ad 7 (0)))] 2 rfl dX7_courtsKept_30 (by decide) rfl ?_
          refine g_goto F 4 dX7_courtsKept_33 rfl ?_
          refine g_sub [2, 1, 0] (lv' := [(0, .ref (ad 7 (0))), (1, .int (J ((a) + (1)))), (2, .int (J (j + 1)))]) rfl ?_
          exact ih4 ((a) + (1)) (j + 1) (by omega) (by rw [sumZ_s _ (by omega), ← ha]; (repeat' split) <;> first | omega | contradiction) (by omega)
        · skip
          refine g_iconst F dX7_courtsKept_23 (0) (by decide) ?_
          refine g_goto F 28 dX7_courtsKept_24 rfl ?_
          refine g_iadd F dX7_courtsKept_28 ?_
          refine g_istore_n F [(1, .int (J ((a) + (0)))), (0, .ref (ad 7 (0))), (2, .int (J (j)))] dX7_courtsKept_29 rfl (by decide) rfl ?_
          refine g_iinc F [(2, .int (J (j + 1))), (1, .int (J ((a) + (0)))), (0, .ref (ad 7 (0)))] 2 rfl dX7_courtsKept_30 (by decide) rfl ?_
          refine g_goto F 4 dX7_courtsKept_33 rfl ?_
          refine g_sub [2, 1, 0] (lv' := [(0, .ref (ad 7 (0))), (1, .int (J ((a) + (0)))), (2, .int (J (j + 1)))]) rfl ?_
          exact ih4 ((a) + (0)) (j + 1) (by omega) (by rw [sumZ_s _ (by omega), ← ha]; (repeat' split) <;> first | omega | contradiction) (by omega)
  refine g_sub [2, 1, 0] (lv' := [(0, .ref (ad 7 (0))), (1, .int (J (0))), (2, .int (J (0)))]) rfl ?_
  exact L4 _ (0) (0) (by omega) (rfl) (Nat.lt_succ_self _)

set_option maxRecDepth 20000 in
theorem c_X7_count (l : Launch) (D : gD) (ad : gA) (x : gX) (y : gY) (w : Int) (hw : i32 w) (hV : INV x) : gC l D ad 2 yX7_count cX7_count 2 (some .int) [.ref (ad 7 (0)), .int (J (w))] x y (pI (ctU x w) (x) (y)) := by
  refine g_met RX7 rfl (by decide +kernel) [(0, .ref (ad 7 (0))), (1, .int (J (w)))] rfl (Nat.le_of_ble_eq_true rfl) (fun Θ F hR => ?_)
  obtain ⟨hN, hRW, hDD, hCU, hMS⟩ := hV
  refine g_iload_n F dX7_count_0 rfl 1 rfl ?_
  have rs_1 : i32 (w) := (by omega)
  rcases (show w = 0 ∨ w = 1 ∨ w = 2 ∨ w = 3 ∨ w = 4 ∨ w = 5 ∨ w = 6 ∨ w = 7 ∨ w = 8 ∨ w = 9 ∨ w = 10 ∨ (w ≠ 0 ∧ w ≠ 1 ∧ w ≠ 2 ∧ w ≠ 3 ∧ w ≠ 4 ∧ w ≠ 5 ∧ w ≠ 6 ∧ w ≠ 7 ∧ w ≠ 8 ∧ w ≠ 9 ∧ w ≠ 10) by omega) with s_1 | s_1 | s_1 | s_1 | s_1 | s_1 | s_1 | s_1 | s_1 | s_1 | s_1 | s_1
  · skip
    refine g_switch F 60 dX7_count_1 rs_1 (by omega) (by omega) (by rw [s_1]; rfl) rfl ?_
    refine g_aload_n F dX7_count_60 rfl 0 rfl ?_
    refine gg_Day_court F fk_X7_28 dX7_count_61 ?_
    refine ggN_Court_size F fk_X7_121 dX7_count_64 ?_
    exact g_ireturn F hR dX7_count_67 (pI_i (by unfold ctU; (repeat' split) <;> first | rfl | (exfalso; omega)) rfl rfl)
  · skip
    refine g_switch F 68 dX7_count_1 rs_1 (by omega) (by omega) (by rw [s_1]; rfl) rfl ?_
    refine g_aload_n F dX7_count_68 rfl 0 rfl ?_
    refine gg_Day_court F fk_X7_28 dX7_count_69 ?_
    refine ggN_Court_heat F fk_X7_151 dX7_count_72 ?_
    exact g_ireturn F hR dX7_count_75 (pI_i (by unfold ctU; (repeat' split) <;> first | rfl | (exfalso; omega)) rfl rfl)
  · skip
    refine g_switch F 76 dX7_count_1 rs_1 (by omega) (by omega) (by rw [s_1]; rfl) rfl ?_
    refine g_aload_n F dX7_count_76 rfl 0 rfl ?_
    refine gg_Day_court F fk_X7_28 dX7_count_77 ?_
    refine ggN_Court_deeds F fk_X7_166 dX7_count_80 ?_
    refine ggN_Deeds_size F (by decide) fk_X7_120 dX7_count_83 ?_
    exact g_ireturn F hR dX7_count_86 (pI_i (by unfold ctU; (repeat' split) <;> first | rfl | (exfalso; omega)) rfl rfl)
  · skip
    refine g_switch F 87 dX7_count_1 rs_1 (by omega) (by omega) (by rw [s_1]; rfl) rfl ?_
    refine g_aload_n F dX7_count_87 rfl 0 rfl ?_
    refine gg_Day_court F fk_X7_28 dX7_count_88 ?_
    refine g_callV 0 F (As := []) (st := []) (c_X0_triedOnes l D ad x y  (hN)) (gR_0) rfl mk_X7_311 ki_X0_triedOnes kc_X0_triedOnes (by decide +kernel) rfl (by decide) dX7_count_91 rfl (Nat.le_of_ble_eq_true rfl) (pI_k ?_)
    exact g_ireturn F hR dX7_count_94 (pI_i (by unfold ctU; (repeat' split) <;> first | rfl | (exfalso; omega)) rfl rfl)
  · skip
    refine g_switch F 95 dX7_count_1 rs_1 (by omega) (by omega) (by rw [s_1]; rfl) rfl ?_
    refine g_aload_n F dX7_count_95 rfl 0 rfl ?_
    refine gg_Day_court F fk_X7_28 dX7_count_96 ?_
    refine g_callV 0 F (As := []) (st := []) (c_X0_toldClean l D ad x y  (by omega)) (gR_0) rfl mk_X7_231 ki_X0_toldClean kc_X0_toldClean (by decide +kernel) rfl (by decide) dX7_count_99 rfl (Nat.le_of_ble_eq_true rfl) (pI_k ?_)
    exact g_ireturn F hR dX7_count_102 (pI_i (by unfold ctU; (repeat' split) <;> first | rfl | (exfalso; omega)) rfl rfl)
  · skip
    refine g_switch F 103 dX7_count_1 rs_1 (by omega) (by omega) (by rw [s_1]; rfl) rfl ?_
    refine g_aload_n F dX7_count_103 rfl 0 rfl ?_
    refine gg_Day_court F fk_X7_28 dX7_count_104 ?_
    refine g_callV 0 F (As := []) (st := []) (c_X0_toldWrongly l D ad x y  (by omega)) (gR_0) rfl mk_X7_294 ki_X0_toldWrongly kc_X0_toldWrongly (by decide +kernel) rfl (by decide) dX7_count_107 rfl (Nat.le_of_ble_eq_true rfl) (pI_k ?_)
    exact g_ireturn F hR dX7_count_110 (pI_i (by unfold ctU; (repeat' split) <;> first | rfl | (exfalso; omega)) rfl rfl)
  · skip
    refine g_switch F 111 dX7_count_1 rs_1 (by omega) (by omega) (by rw [s_1]; rfl) rfl ?_
    refine g_aload_n F dX7_count_111 rfl 0 rfl ?_
    refine gg_Day_court F fk_X7_28 dX7_count_112 ?_
    refine g_callV 0 F (As := []) (st := []) (c_X0_allSalve l D ad x y  (by omega)) (gR_0) rfl mk_X7_314 ki_X0_allSalve kc_X0_allSalve (by decide +kernel) rfl (by decide) dX7_count_115 rfl (Nat.le_of_ble_eq_true rfl) (pI_k ?_)
    exact g_ireturn F hR dX7_count_118 (pI_i (by unfold ctU; (repeat' split) <;> first | rfl | (exfalso; omega)) rfl rfl)
  · skip
    refine g_switch F 119 dX7_count_1 rs_1 (by omega) (by omega) (by rw [s_1]; rfl) rfl ?_
    refine g_aload_n F dX7_count_119 rfl 0 rfl ?_
    refine gg_Day_court F fk_X7_28 dX7_count_120 ?_
    refine g_callV 0 F (As := []) (st := []) (c_X0_ploughmen l D ad x y  (by omega)) (gR_0) rfl mk_X7_317 ki_X0_ploughmen kc_X0_ploughmen (by decide +kernel) rfl (by decide) dX7_count_123 rfl (Nat.le_of_ble_eq_true rfl) (pI_k ?_)
    exact g_ireturn F hR dX7_count_126 (pI_i (by unfold ctU; (repeat' split) <;> first | rfl | (exfalso; omega)) rfl rfl)
  · skip
    refine g_switch F 127 dX7_count_1 rs_1 (by omega) (by omega) (by rw [s_1]; rfl) rfl ?_
    refine g_aload_n F dX7_count_127 rfl 0 rfl ?_
    refine gg_Day_rows F fk_X7_11 dX7_count_128 ?_
    refine g_callS 1 F (As := [.ref (ad 30 (0))]) (st := []) (c_X7_howManyThere_R l D ad x y  (hRW)) rfl mk_X7_320 ki_X7_howManyThere kc_X7_howManyThere (by decide +kernel) rfl (by decide) dX7_count_131 rfl (Nat.le_of_ble_eq_true rfl) (pI_k ?_)
    exact g_ireturn F hR dX7_count_134 (pI_i (by unfold ctU; (repeat' split) <;> first | rfl | (exfalso; omega)) rfl rfl)
  · skip
    refine g_switch F 135 dX7_count_1 rs_1 (by omega) (by omega) (by rw [s_1]; rfl) rfl ?_
    refine g_aload_n F dX7_count_135 rfl 0 rfl ?_
    refine gg_Day_texts F fk_X7_15 dX7_count_136 ?_
    refine g_callS 1 F (As := [.ref (ad 31 (0))]) (st := []) (c_X7_howManyThere_T l D ad x y  (hRW)) rfl mk_X7_320 ki_X7_howManyThere kc_X7_howManyThere (by decide +kernel) rfl (by decide) dX7_count_139 rfl (Nat.le_of_ble_eq_true rfl) (pI_k ?_)
    exact g_ireturn F hR dX7_count_142 (pI_i (by unfold ctU; (repeat' split) <;> first | rfl | (exfalso; omega)) rfl rfl)
  · skip
    refine g_switch F 143 dX7_count_1 rs_1 (by omega) (by omega) (by rw [s_1]; rfl) rfl ?_
    refine g_aload_n F dX7_count_143 rfl 0 rfl ?_
    refine g_callV 0 F (As := []) (st := []) (c_X7_courtsKept l D ad x y  (hDD)) (gR_7) rfl mk_X7_324 ki_X7_courtsKept kc_X7_courtsKept (by decide +kernel) rfl (by decide) dX7_count_144 rfl (Nat.le_of_ble_eq_true rfl) (pI_k ?_)
    exact g_ireturn F hR dX7_count_147 (pI_i (by unfold ctU; (repeat' split) <;> first | rfl | (exfalso; omega)) rfl rfl)
  · skip
    refine g_switchD F 148 dX7_count_1 rs_1 (by omega) rfl ?_
    refine g_iconst F dX7_count_148 (-1) (by decide) ?_
    exact g_ireturn F hR dX7_count_149 (pI_i (by unfold ctU; (repeat' split) <;> first | rfl | (exfalso; omega)) rfl rfl)

set_option maxRecDepth 20000 in
theorem c_X7_asked (l : Launch) (D : gD) (ad : gA) (x : gX) (y : gY)   : gC l D ad 0 yX7_asked cX7_asked 1 (some .int) [.ref (ad 7 (0))] x y (pI (x 19 0 0) (x) (y)) := by
  refine g_met RX7 rfl (by decide +kernel) [(0, .ref (ad 7 (0)))] rfl (Nat.le_of_ble_eq_true rfl) (fun Θ F hR => ?_)
  refine g_aload_n F dX7_asked_0 rfl 0 rfl ?_
  refine gg_Day_told F fk_X7_75 dX7_asked_1 ?_
  exact g_ireturn F hR dX7_asked_4 (pI_i (by rfl) rfl rfl)

set_option maxRecDepth 20000 in
theorem c_X7_upper (l : Launch) (D : gD) (ad : gA) (x : gX) (y : gY)   : gC l D ad 0 yX7_upper cX7_upper 1 (some .long) [.ref (ad 7 (0))] x y (pL (x 8 0 0) (x) (y)) := by
  refine g_met RX7 rfl (by decide +kernel) [(0, .ref (ad 7 (0)))] rfl (Nat.le_of_ble_eq_true rfl) (fun Θ F hR => ?_)
  refine g_aload_n F dX7_upper_0 rfl 0 rfl ?_
  refine gg_Day_upperTold F fk_X7_308 dX7_upper_1 ?_
  exact g_lreturn F hR dX7_upper_4 (pL_i (by rfl) rfl rfl)

set_option maxRecDepth 20000 in
theorem c_X7_lower (l : Launch) (D : gD) (ad : gA) (x : gX) (y : gY)   : gC l D ad 0 yX7_lower cX7_lower 1 (some .long) [.ref (ad 7 (0))] x y (pL (x 9 0 0) (x) (y)) := by
  refine g_met RX7 rfl (by decide +kernel) [(0, .ref (ad 7 (0)))] rfl (Nat.le_of_ble_eq_true rfl) (fun Θ F hR => ?_)
  refine g_aload_n F dX7_lower_0 rfl 0 rfl ?_
  refine gg_Day_lowerTold F fk_X7_56 dX7_lower_1 ?_
  exact g_lreturn F hR dX7_lower_4 (pL_i (by rfl) rfl rfl)



set_option maxRecDepth 20000 in
theorem c_X7_digest (l : Launch) (D : gD) (ad : gA) (x : gX) (y : gY)  (hV : INV x) : gC l D ad 4 yX7_digest cX7_digest 5 (some .long) [.ref (ad 7 (0))] x y (pL (sDigest x) (x) (y)) := by
  refine g_met RX7 rfl (by decide +kernel) [(0, .ref (ad 7 (0)))] rfl (Nat.le_of_ble_eq_true rfl) (fun Θ F hR => ?_)
  have hV0 := hV
  obtain ⟨hN, hRW, hDD, hCU, hMS⟩ := hV
  refine g_ldc2 F ck_X7_330 dX7_digest_0 (17) (by decide) ?_
  refine g_lstore_n F [(1, .long (Lg (17))), (0, .ref (ad 7 (0)))] dX7_digest_3 rfl (by decide) rfl ?_
  refine g_iconst F dX7_digest_4 (0) (by decide) ?_
  refine g_istore_n F [(3, .int (J (0))), (1, .long (Lg (17))), (0, .ref (ad 7 (0)))] dX7_digest_5 rfl (by decide) rfl ?_
  have L6 : ∀ (N : Nat) (a : Int) (j : Int), 0 ≤ j ∧ j ≤ 11 → a = dgZ (fun k => ctU x k) (17) j → (11 - j).toNat < N → gW Θ l D ad 5 6 [(0, .ref (ad 7 (0))), (1, .long (Lg (a))), (3, .int (J (j)))] [] x y := by
    intro N
    induction N with
    | zero => intro a j hj ha hFu; omega
    | succ N ih6 =>
      intro a j hj ha hFu
      refine g_iload_n F dX7_digest_6 rfl 2 rfl ?_
      refine g_bipush F dX7_digest_7 (11) (by decide) ?_
      refine g_icmp_ge 31 F dX7_digest_9 (by omega) (by decide) rfl (fun c_1 => ?_) (fun c_1 => ?_)
      · skip
        refine g_iconst F dX7_digest_31 (0) (by decide) ?_
        refine g_istore_n F [(3, .int (J (0))), (0, .ref (ad 7 (0))), (1, .long (Lg (a)))] dX7_digest_32 rfl (by decide) rfl ?_
        have L33 : ∀ (N : Nat) (a : Int) (j : Int), 0 ≤ j ∧ j ≤ x 10 0 0 → a = dgZ (fun q => dU x (q / 9) (q % 9)) (dg1 x) (9 * j) → (x 10 0 0 - j).toNat < N → gW Θ l D ad 5 33 [(0, .ref (ad 7 (0))), (1, .long (Lg (a))), (3, .int (J (j)))] [] x y := by
          intro N
          induction N with
          | zero => intro a j hj ha hFu; omega
          | succ N ih33 =>
            intro a j hj ha hFu
            refine g_iload_n F dX7_digest_33 rfl 2 rfl ?_
            refine g_aload_n F dX7_digest_34 rfl 0 rfl ?_
            refine gg_Day_court F fk_X7_28 dX7_digest_35 ?_
            refine ggN_Court_size F fk_X7_121 dX7_digest_38 ?_
            refine g_icmp_ge 92 F dX7_digest_41 (by omega) (by omega) rfl (fun c_2 => ?_) (fun c_2 => ?_)
            · skip
              refine g_iconst F dX7_digest_92 (0) (by decide) ?_
              refine g_istore_n F [(3, .int (J (0))), (0, .ref (ad 7 (0))), (1, .long (Lg (a)))] dX7_digest_93 rfl (by decide) rfl ?_
              have L94 : ∀ (N : Nat) (a : Int) (j : Int), 0 ≤ j ∧ j ≤ 3 → a = dgZ (fun k => x 16 (1 + k) 0) (dg2 x) j → (3 - j).toNat < N → gW Θ l D ad 5 94 [(0, .ref (ad 7 (0))), (1, .long (Lg (a))), (3, .int (J (j)))] [] x y := by
                intro N
                induction N with
                | zero => intro a j hj ha hFu; omega
                | succ N ih94 =>
                  intro a j hj ha hFu
                  refine g_iload_n F dX7_digest_94 rfl 2 rfl ?_
                  refine g_iconst F dX7_digest_95 (3) (by decide) ?_
                  refine g_icmp_ge 122 F dX7_digest_96 (by omega) (by decide) rfl (fun c_3 => ?_) (fun c_3 => ?_)
                  · skip
                    refine g_iconst F dX7_digest_122 (0) (by decide) ?_
                    refine g_istore_n F [(3, .int (J (0))), (0, .ref (ad 7 (0))), (1, .long (Lg (a)))] dX7_digest_123 rfl (by decide) rfl ?_
                    have L124 : ∀ (N : Nat) (a : Int) (j : Int), 0 ≤ j ∧ j ≤ 6 → a = drZ x (dg3 x) j → (6 - j).toNat < N → gW Θ l D ad 5 124 [(0, .ref (ad 7 (0))), (1, .long (Lg (a))), (3, .int (J (j)))] [] x y := by
                      intro N
                      induction N with
                      | zero => intro a j hj ha hFu; omega
                      | succ N ih124 =>
                        intro a j hj ha hFu
                        refine g_iload_n F dX7_digest_124 rfl 2 rfl ?_
                        refine g_bipush F dX7_digest_125 (6) (by decide) ?_
                        refine g_icmp_ge 147 F dX7_digest_127 (by omega) (by decide) rfl (fun c_4 => ?_) (fun c_4 => ?_)
                        · skip
                          refine g_iconst F dX7_digest_147 (0) (by decide) ?_
                          refine g_istore_n F [(3, .int (J (0))), (0, .ref (ad 7 (0))), (1, .long (Lg (a)))] dX7_digest_148 rfl (by decide) rfl ?_
                          have L149 : ∀ (N : Nat) (a : Int) (j : Int), 0 ≤ j ∧ j ≤ 4 → a = drZ x (dg3 x) (6 + j) → (4 - j).toNat < N → gW Θ l D ad 5 149 [(0, .ref (ad 7 (0))), (1, .long (Lg (a))), (3, .int (J (j)))] [] x y := by
                            intro N
                            induction N with
                            | zero => intro a j hj ha hFu; omega
                            | succ N ih149 =>
                              intro a j hj ha hFu
                              refine g_iload_n F dX7_digest_149 rfl 2 rfl ?_
                              refine g_iconst F dX7_digest_150 (4) (by decide) ?_
                              refine g_icmp_ge 171 F dX7_digest_151 (by omega) (by decide) rfl (fun c_5 => ?_) (fun c_5 => ?_)
                              · skip
                                refine g_lload_n F dX7_digest_171 rfl 1 rfl ?_
                                exact g_lreturn F hR dX7_digest_172 (pL_i (by exact ha.trans (by rw [show j = 4 by omega]; rfl)) rfl rfl)
                              · skip
                                have hw := hRW (6 + j) (by omega) (by omega)
                                have hw2 : -1 ≤ x 17 (6 + j) 0 ∧ x 17 (6 + j) 0 ≤ 60 := by have := hw.1; split at this <;> omega
                                refine g_aload_n F dX7_digest_154 rfl 0 rfl ?_
                                refine gg_Day_texts F fk_X7_15 dX7_digest_155 ?_
                                refine g_iload_n F dX7_digest_158 rfl 2 rfl ?_
                                refine ga_31 F (by omega) dX7_digest_159 ?_
                                refine g_lload_n F dX7_digest_160 rfl 1 rfl ?_
                                refine g_callV 1 F (As := [.long (Lg (a))]) (st := []) (c_X6_digestOnto l D ad x y (6 + j) (a) (by omega) (hw.1) (hw.2.1)) (gR_6 (by omega)) rfl mk_X7_337 ki_X6_digestOnto kc_X6_digestOnto (by decide +kernel) rfl (by decide) dX7_digest_161 rfl (Nat.le_of_ble_eq_true rfl) (pL_k ?_)
                                refine g_lstore_n F [(1, .long (Lg (dgZ (fun q => x 20 (6 + j) q) (31 * (a) + x 17 (6 + j) 0) (x 17 (6 + j) 0)))), (0, .ref (ad 7 (0))), (3, .int (J (j)))] dX7_digest_164 rfl (by decide) rfl ?_
                                refine g_iinc F [(3, .int (J (j + 1))), (1, .long (Lg (dgZ (fun q => x 20 (6 + j) q) (31 * (a) + x 17 (6 + j) 0) (x 17 (6 + j) 0)))), (0, .ref (ad 7 (0)))] 2 rfl dX7_digest_165 (by decide) rfl ?_
                                refine g_goto F 149 dX7_digest_168 rfl ?_
                                refine g_sub [2, 1, 0] (lv' := [(0, .ref (ad 7 (0))), (1, .long (Lg (dgZ (fun q => x 20 (6 + j) q) (31 * (a) + x 17 (6 + j) 0) (x 17 (6 + j) 0)))), (3, .int (J (j + 1)))]) rfl ?_
                                exact ih149 (dgZ (fun q => x 20 (6 + j) q) (31 * (a) + x 17 (6 + j) 0) (x 17 (6 + j) 0)) (j + 1) (by omega) (by rw [← Int.add_assoc, drZ_s _ _ (by omega), ← ha]) (by omega)
                          refine g_sub [1, 2, 0] (lv' := [(0, .ref (ad 7 (0))), (1, .long (Lg (a))), (3, .int (J (0)))]) rfl ?_
                          exact L149 _ (a) (0) (by omega) (ha.trans (by rw [show j = 6 by omega]; rfl)) (Nat.lt_succ_self _)
                        · skip
                          have hw := hRW (j) (by omega) (by omega)
                          have hw2 : -1 ≤ x 17 (j) 0 ∧ x 17 (j) 0 ≤ 60 := by have := hw.1; split at this <;> omega
                          refine g_aload_n F dX7_digest_130 rfl 0 rfl ?_
                          refine gg_Day_rows F fk_X7_11 dX7_digest_131 ?_
                          refine g_iload_n F dX7_digest_134 rfl 2 rfl ?_
                          refine ga_30 F (by omega) dX7_digest_135 ?_
                          refine g_lload_n F dX7_digest_136 rfl 1 rfl ?_
                          refine g_callV 1 F (As := [.long (Lg (a))]) (st := []) (c_X6_digestOnto l D ad x y (j) (a) (by omega) (hw.1) (hw.2.1)) (gR_6 (by omega)) rfl mk_X7_337 ki_X6_digestOnto kc_X6_digestOnto (by decide +kernel) rfl (by decide) dX7_digest_137 rfl (Nat.le_of_ble_eq_true rfl) (pL_k ?_)
                          refine g_lstore_n F [(1, .long (Lg (dgZ (fun q => x 20 (j) q) (31 * (a) + x 17 (j) 0) (x 17 (j) 0)))), (0, .ref (ad 7 (0))), (3, .int (J (j)))] dX7_digest_140 rfl (by decide) rfl ?_
                          refine g_iinc F [(3, .int (J (j + 1))), (1, .long (Lg (dgZ (fun q => x 20 (j) q) (31 * (a) + x 17 (j) 0) (x 17 (j) 0)))), (0, .ref (ad 7 (0)))] 2 rfl dX7_digest_141 (by decide) rfl ?_
                          refine g_goto F 124 dX7_digest_144 rfl ?_
                          refine g_sub [2, 1, 0] (lv' := [(0, .ref (ad 7 (0))), (1, .long (Lg (dgZ (fun q => x 20 (j) q) (31 * (a) + x 17 (j) 0) (x 17 (j) 0)))), (3, .int (J (j + 1)))]) rfl ?_
                          exact ih124 (dgZ (fun q => x 20 (j) q) (31 * (a) + x 17 (j) 0) (x 17 (j) 0)) (j + 1) (by omega) (by rw [drZ_s _ _ (by omega), ← ha]) (by omega)
                    refine g_sub [1, 2, 0] (lv' := [(0, .ref (ad 7 (0))), (1, .long (Lg (a))), (3, .int (J (0)))]) rfl ?_
                    exact L124 _ (a) (0) (by omega) (ha.trans (by rw [show j = 3 by omega]; rfl)) (Nat.lt_succ_self _)
                  · skip
                    have hk := hDD.1.2 (1 + j) (by omega) (by omega)
                    refine g_ldc2 F ck_X7_332 dX7_digest_99 (31) (by decide) ?_
                    refine g_lload_n F dX7_digest_102 rfl 1 rfl ?_
                    refine g_lmul F dX7_digest_103 ?_
                    refine g_aload_n F dX7_digest_104 rfl 0 rfl ?_
                    refine gg_Day_kept F fk_X7_34 dX7_digest_105 ?_
                    refine g_iload_n F dX7_digest_108 rfl 2 rfl ?_
                    refine ga_33 F (by omega) dX7_digest_109 ?_
                    refine ggN_Deeds_size F (by omega) fk_X7_120 dX7_digest_110 ?_
                    refine g_i2l F dX7_digest_113 (by omega) ?_
                    refine g_ladd F dX7_digest_114 ?_
                    refine g_lstore_n F [(1, .long (Lg (((31) * (a)) + (x 16 (1 + j) (0))))), (0, .ref (ad 7 (0))), (3, .int (J (j)))] dX7_digest_115 rfl (by decide) rfl ?_
                    refine g_iinc F [(3, .int (J (j + 1))), (1, .long (Lg (((31) * (a)) + (x 16 (1 + j) (0))))), (0, .ref (ad 7 (0)))] 2 rfl dX7_digest_116 (by decide) rfl ?_
                    refine g_goto F 94 dX7_digest_119 rfl ?_
                    refine g_sub [2, 1, 0] (lv' := [(0, .ref (ad 7 (0))), (1, .long (Lg (((31) * (a)) + (x 16 (1 + j) (0))))), (3, .int (J (j + 1)))]) rfl ?_
                    exact ih94 (((31) * (a)) + (x 16 (1 + j) (0))) (j + 1) (by omega) (by rw [dgZ_s _ _ (by omega), ← ha]) (by omega)
              refine g_sub [1, 2, 0] (lv' := [(0, .ref (ad 7 (0))), (1, .long (Lg (a))), (3, .int (J (0)))]) rfl ?_
              exact L94 _ (a) (0) (by omega) (ha.trans (by rw [show j = x 10 0 0 by omega]; rfl)) (Nat.lt_succ_self _)
            · skip
              refine g_iconst F dX7_digest_44 (0) (by decide) ?_
              refine g_istore F [(4, .int (J (0))), (0, .ref (ad 7 (0))), (1, .long (Lg (a))), (3, .int (J (j)))] dX7_digest_45 (by decide) rfl ?_
              have L47 : ∀ (N : Nat) (b : Int) (w : Int), 0 ≤ w ∧ w ≤ 9 → b = dgZ (fun q => dU x (q / 9) (q % 9)) (dg1 x) (9 * j + w) → (9 - w).toNat < N → gW Θ l D ad 5 47 [(0, .ref (ad 7 (0))), (1, .long (Lg (b))), (3, .int (J (j))), (4, .int (J (w)))] [] x y := by
                intro N
                induction N with
                | zero => intro b w hw hb hFu; omega
                | succ N ih47 =>
                  intro b w hw hb hFu
                  refine g_iload F dX7_digest_47 3 rfl ?_
                  refine g_bipush F dX7_digest_49 (9) (by decide) ?_
                  refine g_icmp_ge 86 F dX7_digest_51 (by omega) (by decide) rfl (fun c_6 => ?_) (fun c_6 => ?_)
                  · skip
                    refine g_iinc F [(3, .int (J (j + 1))), (0, .ref (ad 7 (0))), (1, .long (Lg (b))), (4, .int (J (w)))] 2 rfl dX7_digest_86 (by decide) rfl ?_
                    refine g_goto F 33 dX7_digest_89 rfl ?_
                    refine g_sub [1, 2, 0] (lv' := [(0, .ref (ad 7 (0))), (1, .long (Lg (b))), (3, .int (J (j + 1)))]) rfl ?_
                    exact ih33 (b) (j + 1) (by omega) (hb.trans (by rw [show w = 9 by omega, show 9 * j + 9 = 9 * (j + 1) by omega])) (by omega)
                  · skip
                    have hm := hN.2.2.2 j (by omega) (by omega)
                    have hdu := dU_r (w := w) hN hm
                    refine g_ldc2 F ck_X7_332 dX7_digest_54 (31) (by decide) ?_
                    refine g_lload_n F dX7_digest_57 rfl 1 rfl ?_
                    refine g_lmul F dX7_digest_58 ?_
                    refine g_aload_n F dX7_digest_59 rfl 0 rfl ?_
                    refine gg_Day_court F fk_X7_28 dX7_digest_60 ?_
                    refine g_aload_n F dX7_digest_63 rfl 0 rfl ?_
                    refine gg_Day_court F fk_X7_28 dX7_digest_64 ?_
                    refine ggN_Court_men F fk_X7_126 dX7_digest_67 ?_
                    refine g_iload_n F dX7_digest_70 rfl 2 rfl ?_
                    refine ga_32 F (by omega) dX7_digest_71 ?_
                    refine g_iload F dX7_digest_72 3 rfl ?_
                    refine g_callV 2 F (As := [.ref (ad 3 (j)), .int (J (w))]) (st := [.long (Lg ((31) * (b)))]) (c_X0_detail l D ad x y (j) (w) (by omega) (by omega) (hm) (by omega)) (gR_0) rfl mk_X7_130 ki_X0_detail kc_X0_detail (by decide +kernel) rfl (by decide) dX7_digest_74 rfl (Nat.le_of_ble_eq_true rfl) (pI_k ?_)
                    refine g_i2l F dX7_digest_77 (by omega) ?_
                    refine g_ladd F dX7_digest_78 ?_
                    refine g_lstore_n F [(1, .long (Lg (((31) * (b)) + (dU x (j) (w))))), (0, .ref (ad 7 (0))), (3, .int (J (j))), (4, .int (J (w)))] dX7_digest_79 rfl (by decide) rfl ?_
                    refine g_iinc F [(4, .int (J (w + 1))), (1, .long (Lg (((31) * (b)) + (dU x (j) (w))))), (0, .ref (ad 7 (0))), (3, .int (J (j)))] 3 rfl dX7_digest_80 (by decide) rfl ?_
                    refine g_goto F 47 dX7_digest_83 rfl ?_
                    refine g_sub [2, 1, 3, 0] (lv' := [(0, .ref (ad 7 (0))), (1, .long (Lg (((31) * (b)) + (dU x (j) (w))))), (3, .int (J (j))), (4, .int (J (w + 1)))]) rfl ?_
                    exact ih47 (((31) * (b)) + (dU x (j) (w))) (w + 1) (by omega) (by rw [← Int.add_assoc, dgZ_s _ _ (by omega), ← hb, show (9 * j + w) / 9 = j by omega, show (9 * j + w) % 9 = w by omega]) (by omega)
              refine g_sub [1, 2, 3, 0] (lv' := [(0, .ref (ad 7 (0))), (1, .long (Lg (a))), (3, .int (J (j))), (4, .int (J (0)))]) rfl ?_
              exact L47 _ (a) (0) (by omega) (by rw [Int.add_zero]; exact ha) (Nat.lt_succ_self _)
        refine g_sub [1, 2, 0] (lv' := [(0, .ref (ad 7 (0))), (1, .long (Lg (a))), (3, .int (J (0)))]) rfl ?_
        exact L33 _ (a) (0) (by omega) (ha.trans (by rw [show j = 11 by omega]; rfl)) (Nat.lt_succ_self _)
      · skip
        refine g_ldc2 F ck_X7_332 dX7_digest_12 (31) (by decide) ?_
        refine g_lload_n F dX7_digest_15 rfl 1 rfl ?_
        refine g_lmul F dX7_digest_16 ?_
        refine g_aload_n F dX7_digest_17 rfl 0 rfl ?_
        refine g_iload_n F dX7_digest_18 rfl 2 rfl ?_
        refine g_callV 1 F (As := [.int (J (j))]) (st := [.long (Lg ((31) * (a)))]) (c_X7_count l D ad x y (j) (by omega) (hV0)) (gR_7) rfl mk_X7_334 ki_X7_count kc_X7_count (by decide +kernel) rfl (by decide) dX7_digest_19 rfl (Nat.le_of_ble_eq_true rfl) (pI_k ?_)
        have hct := ctU_r hN hDD.1.1 j
        refine g_i2l F dX7_digest_22 (by omega) ?_
        refine g_ladd F dX7_digest_23 ?_
        refine g_lstore_n F [(1, .long (Lg (((31) * (a)) + (ctU x (j))))), (0, .ref (ad 7 (0))), (3, .int (J (j)))] dX7_digest_24 rfl (by decide) rfl ?_
        refine g_iinc F [(3, .int (J (j + 1))), (1, .long (Lg (((31) * (a)) + (ctU x (j))))), (0, .ref (ad 7 (0)))] 2 rfl dX7_digest_25 (by decide) rfl ?_
        refine g_goto F 6 dX7_digest_28 rfl ?_
        refine g_sub [2, 1, 0] (lv' := [(0, .ref (ad 7 (0))), (1, .long (Lg (((31) * (a)) + (ctU x (j))))), (3, .int (J (j + 1)))]) rfl ?_
        exact ih6 (((31) * (a)) + (ctU x (j))) (j + 1) (by omega) (by rw [dgZ_s _ _ (by omega), ← ha]) (by omega)
  refine g_sub [2, 1, 0] (lv' := [(0, .ref (ad 7 (0))), (1, .long (Lg (17))), (3, .int (J (0)))]) rfl ?_
  exact L6 _ (17) (0) (by omega) (rfl) (Nat.lt_succ_self _)
