theorem fs0_ok : ∀ j, j < 9 → defaultValue (tyX0 j) = vp_V [.null, .null, .null, .int (J (0)), .int (J (0)), .int (J (0)), .int (J (0)), .int (J (0)), .int (J (0))] j := fun j hj => by
  rcases (show j = 0 ∨ j = 1 ∨ j = 2 ∨ j = 3 ∨ j = 4 ∨ j = 5 ∨ j = 6 ∨ j = 7 ∨ j = 8 by omega) with rfl | rfl | rfl | rfl | rfl | rfl | rfl | rfl | rfl
  all_goals first | rfl | (show Value.int 0 = Value.int (J 0); rw [← J_0]; done) | (show Value.long 0 = Value.long (Lg 0); rw [← Lg_0]; done)
theorem fs1_ok : ∀ j, j < 3 → defaultValue (tyX1 j) = vp_V [.null, .null, .int (J (0))] j := fun j hj => by
  rcases (show j = 0 ∨ j = 1 ∨ j = 2 by omega) with rfl | rfl | rfl
  all_goals first | rfl | (show Value.int 0 = Value.int (J 0); rw [← J_0]; done) | (show Value.long 0 = Value.long (Lg 0); rw [← Lg_0]; done)
theorem fs2_ok : ∀ j, j < 2 → defaultValue (tyX2 j) = vp_V [.null, .null] j := fun j hj => by
  rcases (show j = 0 ∨ j = 1 by omega) with rfl | rfl
  all_goals first | rfl | (show Value.int 0 = Value.int (J 0); rw [← J_0]; done) | (show Value.long 0 = Value.long (Lg 0); rw [← Lg_0]; done)
theorem fs3_ok : ∀ j, j < 7 → defaultValue (tyX3 j) = vp_V [.int (J (0)), .int (J (0)), .int (J (0)), .int (J (0)), .int (J (0)), .int (J (0)), .int (J (0))] j := fun j hj => by
  rcases (show j = 0 ∨ j = 1 ∨ j = 2 ∨ j = 3 ∨ j = 4 ∨ j = 5 ∨ j = 6 by omega) with rfl | rfl | rfl | rfl | rfl | rfl | rfl
  all_goals first | rfl | (show Value.int 0 = Value.int (J 0); rw [← J_0]; done) | (show Value.long 0 = Value.long (Lg 0); rw [← Lg_0]; done)
theorem fs4_ok : ∀ j, j < 2 → defaultValue (tyX4 j) = vp_V [.null, .int (J (0))] j := fun j hj => by
  rcases (show j = 0 ∨ j = 1 by omega) with rfl | rfl
  all_goals first | rfl | (show Value.int 0 = Value.int (J 0); rw [← J_0]; done) | (show Value.long 0 = Value.long (Lg 0); rw [← Lg_0]; done)
theorem fs5_ok : ∀ j, j < 4 → defaultValue (tyX5 j) = vp_V [.null, .int (J (0)), .int (J (0)), .int (J (0))] j := fun j hj => by
  rcases (show j = 0 ∨ j = 1 ∨ j = 2 ∨ j = 3 by omega) with rfl | rfl | rfl | rfl
  all_goals first | rfl | (show Value.int 0 = Value.int (J 0); rw [← J_0]; done) | (show Value.long 0 = Value.long (Lg 0); rw [← Lg_0]; done)
theorem fs6_ok : ∀ j, j < 2 → defaultValue (tyX6 j) = vp_V [.null, .int (J (0))] j := fun j hj => by
  rcases (show j = 0 ∨ j = 1 by omega) with rfl | rfl
  all_goals first | rfl | (show Value.int 0 = Value.int (J 0); rw [← J_0]; done) | (show Value.long 0 = Value.long (Lg 0); rw [← Lg_0]; done)
theorem fs7_ok : ∀ j, j < 12 → defaultValue (tyX7 j) = vp_V [.null, .null, .null, .null, .null, .null, .null, .null, .int (J (0)), .int (J (0)), .long (Lg (0)), .long (Lg (0))] j := fun j hj => by
  rcases (show j = 0 ∨ j = 1 ∨ j = 2 ∨ j = 3 ∨ j = 4 ∨ j = 5 ∨ j = 6 ∨ j = 7 ∨ j = 8 ∨ j = 9 ∨ j = 10 ∨ j = 11 by omega) with rfl | rfl | rfl | rfl | rfl | rfl | rfl | rfl | rfl | rfl | rfl | rfl
  all_goals first | rfl | (show Value.int 0 = Value.int (J 0); rw [← J_0]; done) | (show Value.long 0 = Value.long (Lg 0); rw [← Lg_0]; done)
set_option maxHeartbeats 4000000 in
set_option maxRecDepth 100000 in
theorem c_X3_init (l : Launch) (D : gD) (h : Nat)  : nC l D 1 yX3_init cX3_init 1 [.ref h] [(h, .inr (3, [.int (J (0)), .int (J (0)), .int (J (0)), .int (J (0)), .int (J (0)), .int (J (0)), .int (J (0))]))] (fun u : Nat → Nat => [(h, .inr (3, [.int (J (0)), .int (J (0)), .int (J (0)), .int (J (0)), .int (J (0)), .int (J (-9)), .int (J (0))]))]) 0 0 := by
  refine n_met RX3 rfl (by decide +kernel) rfl [(0, .ref h)] rfl (Nat.le_of_ble_eq_true rfl) (fun Θ F I hR => ?_)
  refine n_aload_n F dX3_init_0 rfl 0 rfl ?_
  refine n_objInit (st := []) F (tA 56 (by decide +kernel) rfl) (by decide) dX3_init_1 ?_
  refine n_aload_n F dX3_init_4 rfl 0 rfl ?_
  refine n_bipush F dX3_init_5 (-9) (by decide) ?_
  refine n_put (T := TX3) (ty := tyX3 5) F lA3 tyX3 tyX3_ok nmX3 0 rfl rfl 5 (by decide) fk_X3_9 rfl rfl (tyX3_ok 5 (by decide)) rfl rfl (Nat.le_of_ble_eq_true rfl) dX3_init_7 ?_
  refine n_ws (ws' := [(h, .inr (3, [.int (J (0)), .int (J (0)), .int (J (0)), .int (J (0)), .int (J (0)), .int (J (-9)), .int (J (0))]))]) (k' := 0) (n' := 0) rfl rfl rfl ?_
  exact n_ret (st := []) F hR dX3_init_10 (fun _ => 0) rfl rfl rfl

set_option maxHeartbeats 4000000 in
set_option maxRecDepth 100000 in
theorem c_X1_init (l : Launch) (D : gD) (h : Nat) (a : Int)  : nC l D 1 yX1_init cX1_init 2 [.ref h, .int (J (a))] [(h, .inr (1, [.null, .null, .int (J (0))]))] (fun u : Nat → Nat => [(h, .inr (1, [.ref (u 0), .ref (u 1), .int (J (a))])), ((u 0), qInt D.2.1 40 (fun _ => J 0)), ((u 1), qInt D.2.1 40 (fun _ => J 0))]) 2 80 := by
  refine n_met RX1 rfl (by decide +kernel) rfl [(0, .ref h), (1, .int (J (a)))] rfl (Nat.le_of_ble_eq_true rfl) (fun Θ F I hR => ?_)
  refine n_aload_n F dX1_init_0 rfl 0 rfl ?_
  refine n_objInit (st := []) F (tA 97 (by decide +kernel) rfl) (by decide) dX1_init_1 ?_
  refine n_aload_n F dX1_init_4 rfl 0 rfl ?_
  refine n_bipush F dX1_init_5 (40) (by decide) ?_
  refine n_newa F 40 dX1_init_7 rfl (by decide) (Nat.le_of_ble_eq_true rfl) (Nat.le_of_ble_eq_true rfl) (fun q1 => ?_)
  refine n_ws (ws' := [(h, .inr (1, [.null, .null, .int (J (0))])), (q1, qInt D.2.1 40 (fun _ => J 0))]) (k' := 1) (n' := 40) rfl rfl rfl ?_
  refine n_putF (T := TX1) (ty := tyX1 0) F I lA1 tyX1 tyX1_ok nmX1 0 rfl rfl 0 (by decide) fk_X1_9 rfl rfl rfl (tyX1_ok 0 (by decide)) rfl rfl (Nat.le_of_ble_eq_true rfl) dX1_init_9 ?_
  refine n_ws (ws' := [(h, .inr (1, [.ref q1, .null, .int (J (0))])), (q1, qInt D.2.1 40 (fun _ => J 0))]) (k' := 1) (n' := 40) rfl rfl rfl ?_
  refine n_aload_n F dX1_init_12 rfl 0 rfl ?_
  refine n_bipush F dX1_init_13 (40) (by decide) ?_
  refine n_newa F 40 dX1_init_15 rfl (by decide) (Nat.le_of_ble_eq_true rfl) (Nat.le_of_ble_eq_true rfl) (fun q2 => ?_)
  refine n_ws (ws' := [(h, .inr (1, [.ref q1, .null, .int (J (0))])), (q1, qInt D.2.1 40 (fun _ => J 0)), (q2, qInt D.2.1 40 (fun _ => J 0))]) (k' := 2) (n' := 80) rfl rfl rfl ?_
  refine n_putF (T := TX1) (ty := tyX1 1) F I lA1 tyX1 tyX1_ok nmX1 0 rfl rfl 1 (by decide) fk_X1_15 rfl rfl rfl (tyX1_ok 1 (by decide)) rfl rfl (Nat.le_of_ble_eq_true rfl) dX1_init_17 ?_
  refine n_ws (ws' := [(h, .inr (1, [.ref q1, .ref q2, .int (J (0))])), (q1, qInt D.2.1 40 (fun _ => J 0)), (q2, qInt D.2.1 40 (fun _ => J 0))]) (k' := 2) (n' := 80) rfl rfl rfl ?_
  refine n_aload_n F dX1_init_20 rfl 0 rfl ?_
  refine n_iload_n F dX1_init_21 rfl 1 rfl ?_
  refine n_put (T := TX1) (ty := tyX1 2) F lA1 tyX1 tyX1_ok nmX1 0 rfl rfl 2 (by decide) fk_X1_18 rfl rfl (tyX1_ok 2 (by decide)) rfl rfl (Nat.le_of_ble_eq_true rfl) dX1_init_22 ?_
  refine n_ws (ws' := [(h, .inr (1, [.ref q1, .ref q2, .int (J (a))])), (q1, qInt D.2.1 40 (fun _ => J 0)), (q2, qInt D.2.1 40 (fun _ => J 0))]) (k' := 2) (n' := 80) rfl rfl rfl ?_
  exact n_ret (st := []) F hR dX1_init_25 (fun j => [q1, q2].getD j 0) rfl rfl rfl

set_option maxHeartbeats 4000000 in
set_option maxRecDepth 100000 in
theorem c_X2_init (l : Launch) (D : gD) (h : Nat)  : nC l D 1 yX2_init cX2_init 1 [.ref h] [(h, .inr (2, [.null, .null]))] (fun u : Nat → Nat => [(h, .inr (2, [.ref (u 0), .ref (u 1)])), ((u 0), qInt D.2.1 31 (fun _ => J 0)), ((u 1), qInt D.2.1 31 (fun _ => J 0))]) 2 62 := by
  refine n_met RX2 rfl (by decide +kernel) rfl [(0, .ref h)] rfl (Nat.le_of_ble_eq_true rfl) (fun Θ F I hR => ?_)
  refine n_aload_n F dX2_init_0 rfl 0 rfl ?_
  refine n_objInit (st := []) F (tA 168 (by decide +kernel) rfl) (by decide) dX2_init_1 ?_
  refine n_aload_n F dX2_init_4 rfl 0 rfl ?_
  refine n_bipush F dX2_init_5 (31) (by decide) ?_
  refine n_newa F 31 dX2_init_7 rfl (by decide) (Nat.le_of_ble_eq_true rfl) (Nat.le_of_ble_eq_true rfl) (fun q1 => ?_)
  refine n_ws (ws' := [(h, .inr (2, [.null, .null])), (q1, qInt D.2.1 31 (fun _ => J 0))]) (k' := 1) (n' := 31) rfl rfl rfl ?_
  refine n_put (T := TX2) (ty := tyX2 0) F lA2 tyX2 tyX2_ok nmX2 0 rfl rfl 0 (by decide) fk_X2_9 rfl rfl (tyX2_ok 0 (by decide)) rfl rfl (Nat.le_of_ble_eq_true rfl) dX2_init_9 ?_
  refine n_ws (ws' := [(h, .inr (2, [.ref q1, .null])), (q1, qInt D.2.1 31 (fun _ => J 0))]) (k' := 1) (n' := 31) rfl rfl rfl ?_
  refine n_aload_n F dX2_init_12 rfl 0 rfl ?_
  refine n_bipush F dX2_init_13 (31) (by decide) ?_
  refine n_newa F 31 dX2_init_15 rfl (by decide) (Nat.le_of_ble_eq_true rfl) (Nat.le_of_ble_eq_true rfl) (fun q2 => ?_)
  refine n_ws (ws' := [(h, .inr (2, [.ref q1, .null])), (q1, qInt D.2.1 31 (fun _ => J 0)), (q2, qInt D.2.1 31 (fun _ => J 0))]) (k' := 2) (n' := 62) rfl rfl rfl ?_
  refine n_put (T := TX2) (ty := tyX2 1) F lA2 tyX2 tyX2_ok nmX2 0 rfl rfl 1 (by decide) fk_X2_15 rfl rfl (tyX2_ok 1 (by decide)) rfl rfl (Nat.le_of_ble_eq_true rfl) dX2_init_17 ?_
  refine n_ws (ws' := [(h, .inr (2, [.ref q1, .ref q2])), (q1, qInt D.2.1 31 (fun _ => J 0)), (q2, qInt D.2.1 31 (fun _ => J 0))]) (k' := 2) (n' := 62) rfl rfl rfl ?_
  exact n_ret (st := []) F hR dX2_init_20 (fun j => [q1, q2].getD j 0) rfl rfl rfl

set_option maxHeartbeats 4000000 in
set_option maxRecDepth 100000 in
theorem c_X4_init (l : Launch) (D : gD) (h : Nat)  : nC l D 1 yX4_init cX4_init 1 [.ref h] [(h, .inr (4, [.null, .int (J (0))]))] (fun u : Nat → Nat => [(h, .inr (4, [.ref (u 0), .int (J (0))])), ((u 0), qInt D.2.1 6 (fun _ => J 0))]) 1 6 := by
  refine n_met RX4 rfl (by decide +kernel) rfl [(0, .ref h)] rfl (Nat.le_of_ble_eq_true rfl) (fun Θ F I hR => ?_)
  refine n_aload_n F dX4_init_0 rfl 0 rfl ?_
  refine n_objInit (st := []) F (tA 155 (by decide +kernel) rfl) (by decide) dX4_init_1 ?_
  refine n_aload_n F dX4_init_4 rfl 0 rfl ?_
  refine n_bipush F dX4_init_5 (6) (by decide) ?_
  refine n_newa F 6 dX4_init_7 rfl (by decide) (Nat.le_of_ble_eq_true rfl) (Nat.le_of_ble_eq_true rfl) (fun q1 => ?_)
  refine n_ws (ws' := [(h, .inr (4, [.null, .int (J (0))])), (q1, qInt D.2.1 6 (fun _ => J 0))]) (k' := 1) (n' := 6) rfl rfl rfl ?_
  refine n_putF (T := TX4) (ty := tyX4 0) F I lA4 tyX4 tyX4_ok nmX4 0 rfl rfl 0 (by decide) fk_X4_9 rfl rfl rfl (tyX4_ok 0 (by decide)) rfl rfl (Nat.le_of_ble_eq_true rfl) dX4_init_9 ?_
  refine n_ws (ws' := [(h, .inr (4, [.ref q1, .int (J (0))])), (q1, qInt D.2.1 6 (fun _ => J 0))]) (k' := 1) (n' := 6) rfl rfl rfl ?_
  exact n_ret (st := []) F hR dX4_init_12 (fun _ => q1) rfl rfl rfl

set_option maxHeartbeats 4000000 in
set_option maxRecDepth 100000 in
theorem c_X5_init (l : Launch) (D : gD) (h : Nat)  : nC l D 1 yX5_init cX5_init 1 [.ref h] [(h, .inr (5, [.null, .int (J (0)), .int (J (0)), .int (J (0))]))] (fun u : Nat → Nat => [(h, .inr (5, [.ref (u 0), .int (J (0)), .int (J (0)), .int (J (0))])), ((u 0), qInt D.2.1 28 (fun _ => J 0))]) 1 28 := by
  refine n_met RX5 rfl (by decide +kernel) rfl [(0, .ref h)] rfl (Nat.le_of_ble_eq_true rfl) (fun Θ F I hR => ?_)
  refine n_aload_n F dX5_init_0 rfl 0 rfl ?_
  refine n_objInit (st := []) F (tA 27 (by decide +kernel) rfl) (by decide) dX5_init_1 ?_
  refine n_aload_n F dX5_init_4 rfl 0 rfl ?_
  refine n_bipush F dX5_init_5 (28) (by decide) ?_
  refine n_newa F 28 dX5_init_7 rfl (by decide) (Nat.le_of_ble_eq_true rfl) (Nat.le_of_ble_eq_true rfl) (fun q1 => ?_)
  refine n_ws (ws' := [(h, .inr (5, [.null, .int (J (0)), .int (J (0)), .int (J (0))])), (q1, qInt D.2.1 28 (fun _ => J 0))]) (k' := 1) (n' := 28) rfl rfl rfl ?_
  refine n_putF (T := TX5) (ty := tyX5 0) F I lA5 tyX5 tyX5_ok nmX5 0 rfl rfl 0 (by decide) fk_X5_11 rfl rfl rfl (tyX5_ok 0 (by decide)) rfl rfl (Nat.le_of_ble_eq_true rfl) dX5_init_9 ?_
  refine n_ws (ws' := [(h, .inr (5, [.ref q1, .int (J (0)), .int (J (0)), .int (J (0))])), (q1, qInt D.2.1 28 (fun _ => J 0))]) (k' := 1) (n' := 28) rfl rfl rfl ?_
  exact n_ret (st := []) F hR dX5_init_12 (fun _ => q1) rfl rfl rfl

set_option maxHeartbeats 4000000 in
set_option maxRecDepth 100000 in
theorem c_X6_init (l : Launch) (D : gD) (h : Nat) (M : Nat) (hM : M ≤ 60) : nC l D 1 yX6_init cX6_init 2 [.ref h, .int (J (M))] [(h, .inr (6, [.null, .int (J (0))]))] (fun u : Nat → Nat => [(h, .inr (6, [.ref (u 0), .int (J (-1))])), ((u 0), qInt D.2.1 M (fun _ => J 0))]) 1 M := by
  refine n_met RX6 rfl (by decide +kernel) rfl [(0, .ref h), (1, .int (J (M)))] rfl (Nat.le_of_ble_eq_true rfl) (fun Θ F I hR => ?_)
  refine n_aload_n F dX6_init_0 rfl 0 rfl ?_
  refine n_objInit (st := []) F (tA 180 (by decide +kernel) rfl) (by decide) dX6_init_1 ?_
  refine n_aload_n F dX6_init_4 rfl 0 rfl ?_
  refine n_iconst F dX6_init_5 (-1) (by decide) ?_
  refine n_put (T := TX6) (ty := tyX6 1) F lA6 tyX6 tyX6_ok nmX6 0 rfl rfl 1 (by decide) fk_X6_9 rfl rfl (tyX6_ok 1 (by decide)) rfl rfl (Nat.le_of_ble_eq_true rfl) dX6_init_6 ?_
  refine n_ws (ws' := [(h, .inr (6, [.null, .int (J (-1))]))]) (k' := 0) (n' := 0) rfl rfl rfl ?_
  refine n_aload_n F dX6_init_9 rfl 0 rfl ?_
  refine n_iload_n F dX6_init_10 rfl 1 rfl ?_
  refine n_newa F M dX6_init_11 rfl (by omega) (by omega) (by omega) (fun q1 => ?_)
  refine n_ws (ws' := [(h, .inr (6, [.null, .int (J (-1))])), (q1, qInt D.2.1 M (fun _ => J 0))]) (k' := 1) (n' := 0 + M) rfl rfl rfl ?_
  refine n_putF (T := TX6) (ty := tyX6 0) F I lA6 tyX6 tyX6_ok nmX6 0 rfl rfl 0 (by decide) fk_X6_15 rfl rfl rfl (tyX6_ok 0 (by decide)) rfl rfl (Nat.le_of_ble_eq_true rfl) dX6_init_13 ?_
  refine n_ws (ws' := [(h, .inr (6, [.ref q1, .int (J (-1))])), (q1, qInt D.2.1 M (fun _ => J 0))]) (k' := 1) (n' := 0 + M) rfl rfl rfl ?_
  exact n_ret (st := []) F hR dX6_init_16 (fun _ => q1) rfl rfl (by omega)

set_option maxHeartbeats 4000000 in
set_option maxRecDepth 100000 in
theorem c_X0_init (l : Launch) (D : gD) (h : Nat)  : nC l D 2 yX0_init cX0_init 2 [.ref h] [(h, .inr (0, [.null, .null, .null, .int (J (0)), .int (J (0)), .int (J (0)), .int (J (0)), .int (J (0)), .int (J (0))]))] (fun u : Nat → Nat => [(h, .inr (0, [.ref (u 0), .ref (u 1), .ref (u 2), .int (J (0)), .int (J (0)), .int (J (0)), .int (J (0)), .int (J (0)), .int (J (8))])), ((u 0), qArr D.2.2.2.1 6 (fun j => some (u (5 + j)))), ((u 1), .inr (3, [.int (J (0)), .int (J (0)), .int (J (0)), .int (J (0)), .int (J (0)), .int (J (-9)), .int (J (0))])), ((u 2), .inr (1, [.ref (u 3), .ref (u 4), .int (J (0))])), ((u 3), qInt D.2.1 40 (fun _ => J 0)), ((u 4), qInt D.2.1 40 (fun _ => J 0)), ((u 5), .inr (3, [.int (J (0)), .int (J (0)), .int (J (0)), .int (J (0)), .int (J (0)), .int (J (-9)), .int (J (0))])), ((u 6), .inr (3, [.int (J (0)), .int (J (0)), .int (J (0)), .int (J (0)), .int (J (0)), .int (J (-9)), .int (J (0))])), ((u 7), .inr (3, [.int (J (0)), .int (J (0)), .int (J (0)), .int (J (0)), .int (J (0)), .int (J (-9)), .int (J (0))])), ((u 8), .inr (3, [.int (J (0)), .int (J (0)), .int (J (0)), .int (J (0)), .int (J (0)), .int (J (-9)), .int (J (0))])), ((u 9), .inr (3, [.int (J (0)), .int (J (0)), .int (J (0)), .int (J (0)), .int (J (0)), .int (J (-9)), .int (J (0))])), ((u 10), .inr (3, [.int (J (0)), .int (J (0)), .int (J (0)), .int (J (0)), .int (J (0)), .int (J (-9)), .int (J (0))]))]) 11 138 := by
  refine n_met RX0 rfl (by decide +kernel) rfl [(0, .ref h)] rfl (Nat.le_of_ble_eq_true rfl) (fun Θ F I hR => ?_)
  refine n_aload_n F dX0_init_0 rfl 0 rfl ?_
  refine n_objInit (st := []) F (tA 49 (by decide +kernel) rfl) (by decide) dX0_init_1 ?_
  refine n_aload_n F dX0_init_4 rfl 0 rfl ?_
  refine n_bipush F dX0_init_5 (6) (by decide) ?_
  refine n_newq F 6 2 (fun _ h => h.2.1) rfl (tA 50 (by decide +kernel) rfl) dX0_init_7 rfl (by decide) (Nat.le_of_ble_eq_true rfl) (Nat.le_of_ble_eq_true rfl) (fun q1 => ?_)
  refine n_ws (ws' := [(h, .inr (0, [.null, .null, .null, .int (J (0)), .int (J (0)), .int (J (0)), .int (J (0)), .int (J (0)), .int (J (0))])), (q1, qArr D.2.2.2.1 6 (fun _ => none))]) (k' := 1) (n' := 6) rfl rfl rfl ?_
  refine n_putF (T := TX0) (ty := tyX0 0) F I lA0 tyX0 tyX0_ok nmX0 0 rfl rfl 0 (by decide) fk_X0_11 rfl rfl rfl (tyX0_ok 0 (by decide)) rfl rfl (Nat.le_of_ble_eq_true rfl) dX0_init_10 ?_
  refine n_ws (ws' := [(h, .inr (0, [.ref q1, .null, .null, .int (J (0)), .int (J (0)), .int (J (0)), .int (J (0)), .int (J (0)), .int (J (0))])), (q1, qArr D.2.2.2.1 6 (fun _ => none))]) (k' := 1) (n' := 6) rfl rfl rfl ?_
  refine n_aload_n F dX0_init_13 rfl 0 rfl ?_
  refine n_new (ci := 3) (fs := [.int (J (0)), .int (J (0)), .int (J (0)), .int (J (0)), .int (J (0)), .int (J (0)), .int (J (0))]) F lA3 tyX3 tyX3_ok (tA 50 (by decide +kernel) rfl) (tA 52 (by decide +kernel) rfl) ki_X3_init.2 rfl fs3_ok (Nat.le_of_ble_eq_true rfl) (Nat.le_of_ble_eq_true rfl) dX0_init_14 (fun q2 => ?_)
  refine n_dup F dX0_init_17 rfl ?_
  refine n_callN 0 F (As := []) (st := [.ref q2, .ref h]) (c_X3_init l D (q2)) mk_X0_17 ki_X3_init kc_X3_init rfl (by decide +kernel) rfl (by decide) (by decide) dX0_init_18 rfl (Nat.le_of_ble_eq_true rfl) (fun u3 => ?_)
  refine n_ws (ws' := [(h, .inr (0, [.ref q1, .null, .null, .int (J (0)), .int (J (0)), .int (J (0)), .int (J (0)), .int (J (0)), .int (J (0))])), (q1, qArr D.2.2.2.1 6 (fun _ => none)), (q2, .inr (3, [.int (J (0)), .int (J (0)), .int (J (0)), .int (J (0)), .int (J (0)), .int (J (-9)), .int (J (0))]))]) (k' := 2) (n' := 13) rfl rfl rfl ?_
  refine n_putF (T := TX0) (ty := tyX0 1) F I lA0 tyX0 tyX0_ok nmX0 0 rfl rfl 1 (by decide) fk_X0_18 rfl rfl rfl (tyX0_ok 1 (by decide)) rfl rfl (Nat.le_of_ble_eq_true rfl) dX0_init_21 ?_
  refine n_ws (ws' := [(h, .inr (0, [.ref q1, .ref q2, .null, .int (J (0)), .int (J (0)), .int (J (0)), .int (J (0)), .int (J (0)), .int (J (0))])), (q1, qArr D.2.2.2.1 6 (fun _ => none)), (q2, .inr (3, [.int (J (0)), .int (J (0)), .int (J (0)), .int (J (0)), .int (J (0)), .int (J (-9)), .int (J (0))]))]) (k' := 2) (n' := 13) rfl rfl rfl ?_
  refine n_aload_n F dX0_init_24 rfl 0 rfl ?_
  refine n_new (ci := 1) (fs := [.null, .null, .int (J (0))]) F lA1 tyX1 tyX1_ok (tA 92 (by decide +kernel) rfl) (tA 93 (by decide +kernel) rfl) ki_X1_init.2 rfl fs1_ok (Nat.le_of_ble_eq_true rfl) (Nat.le_of_ble_eq_true rfl) dX0_init_25 (fun q4 => ?_)
  refine n_dup F dX0_init_28 rfl ?_
  refine n_iconst F dX0_init_29 (0) (by decide) ?_
  refine n_callI 1 F (As := [.int (J (0))]) (st := [.ref q4, .ref h]) (c_X1_init l D (q4) (0)) mk_X0_24 ki_X1_init kc_X1_init rfl (by decide +kernel) rfl (by decide) (by decide) dX0_init_30 rfl (Nat.le_of_ble_eq_true rfl) (fun u5 => ?_)
  refine n_ws (ws' := [(h, .inr (0, [.ref q1, .ref q2, .null, .int (J (0)), .int (J (0)), .int (J (0)), .int (J (0)), .int (J (0)), .int (J (0))])), (q1, qArr D.2.2.2.1 6 (fun _ => none)), (q2, .inr (3, [.int (J (0)), .int (J (0)), .int (J (0)), .int (J (0)), .int (J (0)), .int (J (-9)), .int (J (0))])), (q4, .inr (1, [.ref (u5 0), .ref (u5 1), .int (J (0))])), ((u5 0), qInt D.2.1 40 (fun _ => J 0)), ((u5 1), qInt D.2.1 40 (fun _ => J 0))]) (k' := 5) (n' := 96) rfl rfl rfl ?_
  refine n_putF (T := TX0) (ty := tyX0 2) F I lA0 tyX0 tyX0_ok nmX0 0 rfl rfl 2 (by decide) fk_X0_27 rfl rfl rfl (tyX0_ok 2 (by decide)) rfl rfl (Nat.le_of_ble_eq_true rfl) dX0_init_33 ?_
  refine n_ws (ws' := [(h, .inr (0, [.ref q1, .ref q2, .ref q4, .int (J (0)), .int (J (0)), .int (J (0)), .int (J (0)), .int (J (0)), .int (J (0))])), (q1, qArr D.2.2.2.1 6 (fun _ => none)), (q2, .inr (3, [.int (J (0)), .int (J (0)), .int (J (0)), .int (J (0)), .int (J (0)), .int (J (-9)), .int (J (0))])), (q4, .inr (1, [.ref (u5 0), .ref (u5 1), .int (J (0))])), ((u5 0), qInt D.2.1 40 (fun _ => J 0)), ((u5 1), qInt D.2.1 40 (fun _ => J 0))]) (k' := 5) (n' := 96) rfl rfl rfl ?_
  refine n_aload_n F dX0_init_36 rfl 0 rfl ?_
  refine n_bipush F dX0_init_37 (8) (by decide) ?_
  refine n_put (T := TX0) (ty := tyX0 8) F lA0 tyX0 tyX0_ok nmX0 0 rfl rfl 8 (by decide) fk_X0_31 rfl rfl (tyX0_ok 8 (by decide)) rfl rfl (Nat.le_of_ble_eq_true rfl) dX0_init_39 ?_
  refine n_ws (ws' := [(h, .inr (0, [.ref q1, .ref q2, .ref q4, .int (J (0)), .int (J (0)), .int (J (0)), .int (J (0)), .int (J (0)), .int (J (8))])), (q1, qArr D.2.2.2.1 6 (fun _ => none)), (q2, .inr (3, [.int (J (0)), .int (J (0)), .int (J (0)), .int (J (0)), .int (J (0)), .int (J (-9)), .int (J (0))])), (q4, .inr (1, [.ref (u5 0), .ref (u5 1), .int (J (0))])), ((u5 0), qInt D.2.1 40 (fun _ => J 0)), ((u5 1), qInt D.2.1 40 (fun _ => J 0))]) (k' := 5) (n' := 96) rfl rfl rfl ?_
  refine n_iconst F dX0_init_42 (0) (by decide) ?_
  refine n_istore_n F [(1, .int (J (0))), (0, .ref h)] dX0_init_43 rfl (by decide) rfl ?_
  refine n_iload_n F dX0_init_44 rfl 0 rfl ?_
  refine n_bipush F dX0_init_45 (6) (by decide) ?_
  refine n_geF F 69 dX0_init_47 (by decide) (by decide) rfl (by decide) ?_
  refine n_aload_n F dX0_init_50 rfl 1 rfl ?_
  refine n_get (T := TX0) F lA0 0 rfl rfl 0 (by decide) fk_X0_11 rfl rfl dX0_init_51 ?_
  refine n_iload_n F dX0_init_54 rfl 0 rfl ?_
  refine n_new (ci := 3) (fs := [.int (J (0)), .int (J (0)), .int (J (0)), .int (J (0)), .int (J (0)), .int (J (0)), .int (J (0))]) F lA3 tyX3 tyX3_ok (tA 50 (by decide +kernel) rfl) (tA 52 (by decide +kernel) rfl) ki_X3_init.2 rfl fs3_ok (Nat.le_of_ble_eq_true rfl) (Nat.le_of_ble_eq_true rfl) dX0_init_55 (fun q6 => ?_)
  refine n_dup F dX0_init_58 rfl ?_
  refine n_callN 0 F (As := []) (st := [.ref q6, .int (J (0)), .ref q1]) (c_X3_init l D (q6)) mk_X0_17 ki_X3_init kc_X3_init rfl (by decide +kernel) rfl (by decide) (by decide) dX0_init_59 rfl (Nat.le_of_ble_eq_true rfl) (fun u7 => ?_)
  refine n_ws (ws' := [(h, .inr (0, [.ref q1, .ref q2, .ref q4, .int (J (0)), .int (J (0)), .int (J (0)), .int (J (0)), .int (J (0)), .int (J (8))])), (q1, qArr D.2.2.2.1 6 (fun _ => none)), (q2, .inr (3, [.int (J (0)), .int (J (0)), .int (J (0)), .int (J (0)), .int (J (0)), .int (J (-9)), .int (J (0))])), (q4, .inr (1, [.ref (u5 0), .ref (u5 1), .int (J (0))])), ((u5 0), qInt D.2.1 40 (fun _ => J 0)), ((u5 1), qInt D.2.1 40 (fun _ => J 0)), (q6, .inr (3, [.int (J (0)), .int (J (0)), .int (J (0)), .int (J (0)), .int (J (0)), .int (J (-9)), .int (J (0))]))]) (k' := 6) (n' := 103) rfl rfl rfl ?_
  refine n_aast F 1 2 6 0 rfl rfl rfl rfl rfl (by decide) (by decide) dX0_init_62 ?_
  refine n_ws (ws' := [(h, .inr (0, [.ref q1, .ref q2, .ref q4, .int (J (0)), .int (J (0)), .int (J (0)), .int (J (0)), .int (J (0)), .int (J (8))])), (q1, qArr D.2.2.2.1 6 (va_up (fun _ => none) 0 (some q6))), (q2, .inr (3, [.int (J (0)), .int (J (0)), .int (J (0)), .int (J (0)), .int (J (0)), .int (J (-9)), .int (J (0))])), (q4, .inr (1, [.ref (u5 0), .ref (u5 1), .int (J (0))])), ((u5 0), qInt D.2.1 40 (fun _ => J 0)), ((u5 1), qInt D.2.1 40 (fun _ => J 0)), (q6, .inr (3, [.int (J (0)), .int (J (0)), .int (J (0)), .int (J (0)), .int (J (0)), .int (J (-9)), .int (J (0))]))]) (k' := 6) (n' := 103) rfl rfl rfl ?_
  refine n_iinc F [(1, .int (J (1))), (0, .ref h)] 0 rfl dX0_init_63 (by decide) rfl ?_
  refine n_goto F 44 dX0_init_66 rfl ?_
  refine n_iload_n F dX0_init_44 rfl 0 rfl ?_
  refine n_bipush F dX0_init_45 (6) (by decide) ?_
  refine n_geF F 69 dX0_init_47 (by decide) (by decide) rfl (by decide) ?_
  refine n_aload_n F dX0_init_50 rfl 1 rfl ?_
  refine n_get (T := TX0) F lA0 0 rfl rfl 0 (by decide) fk_X0_11 rfl rfl dX0_init_51 ?_
  refine n_iload_n F dX0_init_54 rfl 0 rfl ?_
  refine n_new (ci := 3) (fs := [.int (J (0)), .int (J (0)), .int (J (0)), .int (J (0)), .int (J (0)), .int (J (0)), .int (J (0))]) F lA3 tyX3 tyX3_ok (tA 50 (by decide +kernel) rfl) (tA 52 (by decide +kernel) rfl) ki_X3_init.2 rfl fs3_ok (Nat.le_of_ble_eq_true rfl) (Nat.le_of_ble_eq_true rfl) dX0_init_55 (fun q8 => ?_)
  refine n_dup F dX0_init_58 rfl ?_
  refine n_callN 0 F (As := []) (st := [.ref q8, .int (J (1)), .ref q1]) (c_X3_init l D (q8)) mk_X0_17 ki_X3_init kc_X3_init rfl (by decide +kernel) rfl (by decide) (by decide) dX0_init_59 rfl (Nat.le_of_ble_eq_true rfl) (fun u9 => ?_)
  refine n_ws (ws' := [(h, .inr (0, [.ref q1, .ref q2, .ref q4, .int (J (0)), .int (J (0)), .int (J (0)), .int (J (0)), .int (J (0)), .int (J (8))])), (q1, qArr D.2.2.2.1 6 (va_up (fun _ => none) 0 (some q6))), (q2, .inr (3, [.int (J (0)), .int (J (0)), .int (J (0)), .int (J (0)), .int (J (0)), .int (J (-9)), .int (J (0))])), (q4, .inr (1, [.ref (u5 0), .ref (u5 1), .int (J (0))])), ((u5 0), qInt D.2.1 40 (fun _ => J 0)), ((u5 1), qInt D.2.1 40 (fun _ => J 0)), (q6, .inr (3, [.int (J (0)), .int (J (0)), .int (J (0)), .int (J (0)), .int (J (0)), .int (J (-9)), .int (J (0))])), (q8, .inr (3, [.int (J (0)), .int (J (0)), .int (J (0)), .int (J (0)), .int (J (0)), .int (J (-9)), .int (J (0))]))]) (k' := 7) (n' := 110) rfl rfl rfl ?_
  refine n_aast F 1 2 7 1 rfl rfl rfl rfl rfl (by decide) (by decide) dX0_init_62 ?_
  refine n_ws (ws' := [(h, .inr (0, [.ref q1, .ref q2, .ref q4, .int (J (0)), .int (J (0)), .int (J (0)), .int (J (0)), .int (J (0)), .int (J (8))])), (q1, qArr D.2.2.2.1 6 (va_up (va_up (fun _ => none) 0 (some q6)) 1 (some q8))), (q2, .inr (3, [.int (J (0)), .int (J (0)), .int (J (0)), .int (J (0)), .int (J (0)), .int (J (-9)), .int (J (0))])), (q4, .inr (1, [.ref (u5 0), .ref (u5 1), .int (J (0))])), ((u5 0), qInt D.2.1 40 (fun _ => J 0)), ((u5 1), qInt D.2.1 40 (fun _ => J 0)), (q6, .inr (3, [.int (J (0)), .int (J (0)), .int (J (0)), .int (J (0)), .int (J (0)), .int (J (-9)), .int (J (0))])), (q8, .inr (3, [.int (J (0)), .int (J (0)), .int (J (0)), .int (J (0)), .int (J (0)), .int (J (-9)), .int (J (0))]))]) (k' := 7) (n' := 110) rfl rfl rfl ?_
  refine n_iinc F [(1, .int (J (2))), (0, .ref h)] 0 rfl dX0_init_63 (by decide) rfl ?_
  refine n_goto F 44 dX0_init_66 rfl ?_
  refine n_iload_n F dX0_init_44 rfl 0 rfl ?_
  refine n_bipush F dX0_init_45 (6) (by decide) ?_
  refine n_geF F 69 dX0_init_47 (by decide) (by decide) rfl (by decide) ?_
  refine n_aload_n F dX0_init_50 rfl 1 rfl ?_
  refine n_get (T := TX0) F lA0 0 rfl rfl 0 (by decide) fk_X0_11 rfl rfl dX0_init_51 ?_
  refine n_iload_n F dX0_init_54 rfl 0 rfl ?_
  refine n_new (ci := 3) (fs := [.int (J (0)), .int (J (0)), .int (J (0)), .int (J (0)), .int (J (0)), .int (J (0)), .int (J (0))]) F lA3 tyX3 tyX3_ok (tA 50 (by decide +kernel) rfl) (tA 52 (by decide +kernel) rfl) ki_X3_init.2 rfl fs3_ok (Nat.le_of_ble_eq_true rfl) (Nat.le_of_ble_eq_true rfl) dX0_init_55 (fun q10 => ?_)
  refine n_dup F dX0_init_58 rfl ?_
  refine n_callN 0 F (As := []) (st := [.ref q10, .int (J (2)), .ref q1]) (c_X3_init l D (q10)) mk_X0_17 ki_X3_init kc_X3_init rfl (by decide +kernel) rfl (by decide) (by decide) dX0_init_59 rfl (Nat.le_of_ble_eq_true rfl) (fun u11 => ?_)
  refine n_ws (ws' := [(h, .inr (0, [.ref q1, .ref q2, .ref q4, .int (J (0)), .int (J (0)), .int (J (0)), .int (J (0)), .int (J (0)), .int (J (8))])), (q1, qArr D.2.2.2.1 6 (va_up (va_up (fun _ => none) 0 (some q6)) 1 (some q8))), (q2, .inr (3, [.int (J (0)), .int (J (0)), .int (J (0)), .int (J (0)), .int (J (0)), .int (J (-9)), .int (J (0))])), (q4, .inr (1, [.ref (u5 0), .ref (u5 1), .int (J (0))])), ((u5 0), qInt D.2.1 40 (fun _ => J 0)), ((u5 1), qInt D.2.1 40 (fun _ => J 0)), (q6, .inr (3, [.int (J (0)), .int (J (0)), .int (J (0)), .int (J (0)), .int (J (0)), .int (J (-9)), .int (J (0))])), (q8, .inr (3, [.int (J (0)), .int (J (0)), .int (J (0)), .int (J (0)), .int (J (0)), .int (J (-9)), .int (J (0))])), (q10, .inr (3, [.int (J (0)), .int (J (0)), .int (J (0)), .int (J (0)), .int (J (0)), .int (J (-9)), .int (J (0))]))]) (k' := 8) (n' := 117) rfl rfl rfl ?_
  refine n_aast F 1 2 8 2 rfl rfl rfl rfl rfl (by decide) (by decide) dX0_init_62 ?_
  refine n_ws (ws' := [(h, .inr (0, [.ref q1, .ref q2, .ref q4, .int (J (0)), .int (J (0)), .int (J (0)), .int (J (0)), .int (J (0)), .int (J (8))])), (q1, qArr D.2.2.2.1 6 (va_up (va_up (va_up (fun _ => none) 0 (some q6)) 1 (some q8)) 2 (some q10))), (q2, .inr (3, [.int (J (0)), .int (J (0)), .int (J (0)), .int (J (0)), .int (J (0)), .int (J (-9)), .int (J (0))])), (q4, .inr (1, [.ref (u5 0), .ref (u5 1), .int (J (0))])), ((u5 0), qInt D.2.1 40 (fun _ => J 0)), ((u5 1), qInt D.2.1 40 (fun _ => J 0)), (q6, .inr (3, [.int (J (0)), .int (J (0)), .int (J (0)), .int (J (0)), .int (J (0)), .int (J (-9)), .int (J (0))])), (q8, .inr (3, [.int (J (0)), .int (J (0)), .int (J (0)), .int (J (0)), .int (J (0)), .int (J (-9)), .int (J (0))])), (q10, .inr (3, [.int (J (0)), .int (J (0)), .int (J (0)), .int (J (0)), .int (J (0)), .int (J (-9)), .int (J (0))]))]) (k' := 8) (n' := 117) rfl rfl rfl ?_
  refine n_iinc F [(1, .int (J (3))), (0, .ref h)] 0 rfl dX0_init_63 (by decide) rfl ?_
  refine n_goto F 44 dX0_init_66 rfl ?_
  refine n_iload_n F dX0_init_44 rfl 0 rfl ?_
  refine n_bipush F dX0_init_45 (6) (by decide) ?_
  refine n_geF F 69 dX0_init_47 (by decide) (by decide) rfl (by decide) ?_
  refine n_aload_n F dX0_init_50 rfl 1 rfl ?_
  refine n_get (T := TX0) F lA0 0 rfl rfl 0 (by decide) fk_X0_11 rfl rfl dX0_init_51 ?_
  refine n_iload_n F dX0_init_54 rfl 0 rfl ?_
  refine n_new (ci := 3) (fs := [.int (J (0)), .int (J (0)), .int (J (0)), .int (J (0)), .int (J (0)), .int (J (0)), .int (J (0))]) F lA3 tyX3 tyX3_ok (tA 50 (by decide +kernel) rfl) (tA 52 (by decide +kernel) rfl) ki_X3_init.2 rfl fs3_ok (Nat.le_of_ble_eq_true rfl) (Nat.le_of_ble_eq_true rfl) dX0_init_55 (fun q12 => ?_)
  refine n_dup F dX0_init_58 rfl ?_
  refine n_callN 0 F (As := []) (st := [.ref q12, .int (J (3)), .ref q1]) (c_X3_init l D (q12)) mk_X0_17 ki_X3_init kc_X3_init rfl (by decide +kernel) rfl (by decide) (by decide) dX0_init_59 rfl (Nat.le_of_ble_eq_true rfl) (fun u13 => ?_)
  refine n_ws (ws' := [(h, .inr (0, [.ref q1, .ref q2, .ref q4, .int (J (0)), .int (J (0)), .int (J (0)), .int (J (0)), .int (J (0)), .int (J (8))])), (q1, qArr D.2.2.2.1 6 (va_up (va_up (va_up (fun _ => none) 0 (some q6)) 1 (some q8)) 2 (some q10))), (q2, .inr (3, [.int (J (0)), .int (J (0)), .int (J (0)), .int (J (0)), .int (J (0)), .int (J (-9)), .int (J (0))])), (q4, .inr (1, [.ref (u5 0), .ref (u5 1), .int (J (0))])), ((u5 0), qInt D.2.1 40 (fun _ => J 0)), ((u5 1), qInt D.2.1 40 (fun _ => J 0)), (q6, .inr (3, [.int (J (0)), .int (J (0)), .int (J (0)), .int (J (0)), .int (J (0)), .int (J (-9)), .int (J (0))])), (q8, .inr (3, [.int (J (0)), .int (J (0)), .int (J (0)), .int (J (0)), .int (J (0)), .int (J (-9)), .int (J (0))])), (q10, .inr (3, [.int (J (0)), .int (J (0)), .int (J (0)), .int (J (0)), .int (J (0)), .int (J (-9)), .int (J (0))])), (q12, .inr (3, [.int (J (0)), .int (J (0)), .int (J (0)), .int (J (0)), .int (J (0)), .int (J (-9)), .int (J (0))]))]) (k' := 9) (n' := 124) rfl rfl rfl ?_
  refine n_aast F 1 2 9 3 rfl rfl rfl rfl rfl (by decide) (by decide) dX0_init_62 ?_
  refine n_ws (ws' := [(h, .inr (0, [.ref q1, .ref q2, .ref q4, .int (J (0)), .int (J (0)), .int (J (0)), .int (J (0)), .int (J (0)), .int (J (8))])), (q1, qArr D.2.2.2.1 6 (va_up (va_up (va_up (va_up (fun _ => none) 0 (some q6)) 1 (some q8)) 2 (some q10)) 3 (some q12))), (q2, .inr (3, [.int (J (0)), .int (J (0)), .int (J (0)), .int (J (0)), .int (J (0)), .int (J (-9)), .int (J (0))])), (q4, .inr (1, [.ref (u5 0), .ref (u5 1), .int (J (0))])), ((u5 0), qInt D.2.1 40 (fun _ => J 0)), ((u5 1), qInt D.2.1 40 (fun _ => J 0)), (q6, .inr (3, [.int (J (0)), .int (J (0)), .int (J (0)), .int (J (0)), .int (J (0)), .int (J (-9)), .int (J (0))])), (q8, .inr (3, [.int (J (0)), .int (J (0)), .int (J (0)), .int (J (0)), .int (J (0)), .int (J (-9)), .int (J (0))])), (q10, .inr (3, [.int (J (0)), .int (J (0)), .int (J (0)), .int (J (0)), .int (J (0)), .int (J (-9)), .int (J (0))])), (q12, .inr (3, [.int (J (0)), .int (J (0)), .int (J (0)), .int (J (0)), .int (J (0)), .int (J (-9)), .int (J (0))]))]) (k' := 9) (n' := 124) rfl rfl rfl ?_
  refine n_iinc F [(1, .int (J (4))), (0, .ref h)] 0 rfl dX0_init_63 (by decide) rfl ?_
  refine n_goto F 44 dX0_init_66 rfl ?_
  refine n_iload_n F dX0_init_44 rfl 0 rfl ?_
  refine n_bipush F dX0_init_45 (6) (by decide) ?_
  refine n_geF F 69 dX0_init_47 (by decide) (by decide) rfl (by decide) ?_
  refine n_aload_n F dX0_init_50 rfl 1 rfl ?_
  refine n_get (T := TX0) F lA0 0 rfl rfl 0 (by decide) fk_X0_11 rfl rfl dX0_init_51 ?_
  refine n_iload_n F dX0_init_54 rfl 0 rfl ?_
  refine n_new (ci := 3) (fs := [.int (J (0)), .int (J (0)), .int (J (0)), .int (J (0)), .int (J (0)), .int (J (0)), .int (J (0))]) F lA3 tyX3 tyX3_ok (tA 50 (by decide +kernel) rfl) (tA 52 (by decide +kernel) rfl) ki_X3_init.2 rfl fs3_ok (Nat.le_of_ble_eq_true rfl) (Nat.le_of_ble_eq_true rfl) dX0_init_55 (fun q14 => ?_)
  refine n_dup F dX0_init_58 rfl ?_
  refine n_callN 0 F (As := []) (st := [.ref q14, .int (J (4)), .ref q1]) (c_X3_init l D (q14)) mk_X0_17 ki_X3_init kc_X3_init rfl (by decide +kernel) rfl (by decide) (by decide) dX0_init_59 rfl (Nat.le_of_ble_eq_true rfl) (fun u15 => ?_)
  refine n_ws (ws' := [(h, .inr (0, [.ref q1, .ref q2, .ref q4, .int (J (0)), .int (J (0)), .int (J (0)), .int (J (0)), .int (J (0)), .int (J (8))])), (q1, qArr D.2.2.2.1 6 (va_up (va_up (va_up (va_up (fun _ => none) 0 (some q6)) 1 (some q8)) 2 (some q10)) 3 (some q12))), (q2, .inr (3, [.int (J (0)), .int (J (0)), .int (J (0)), .int (J (0)), .int (J (0)), .int (J (-9)), .int (J (0))])), (q4, .inr (1, [.ref (u5 0), .ref (u5 1), .int (J (0))])), ((u5 0), qInt D.2.1 40 (fun _ => J 0)), ((u5 1), qInt D.2.1 40 (fun _ => J 0)), (q6, .inr (3, [.int (J (0)), .int (J (0)), .int (J (0)), .int (J (0)), .int (J (0)), .int (J (-9)), .int (J (0))])), (q8, .inr (3, [.int (J (0)), .int (J (0)), .int (J (0)), .int (J (0)), .int (J (0)), .int (J (-9)), .int (J (0))])), (q10, .inr (3, [.int (J (0)), .int (J (0)), .int (J (0)), .int (J (0)), .int (J (0)), .int (J (-9)), .int (J (0))])), (q12, .inr (3, [.int (J (0)), .int (J (0)), .int (J (0)), .int (J (0)), .int (J (0)), .int (J (-9)), .int (J (0))])), (q14, .inr (3, [.int (J (0)), .int (J (0)), .int (J (0)), .int (J (0)), .int (J (0)), .int (J (-9)), .int (J (0))]))]) (k' := 10) (n' := 131) rfl rfl rfl ?_
  refine n_aast F 1 2 10 4 rfl rfl rfl rfl rfl (by decide) (by decide) dX0_init_62 ?_
  refine n_ws (ws' := [(h, .inr (0, [.ref q1, .ref q2, .ref q4, .int (J (0)), .int (J (0)), .int (J (0)), .int (J (0)), .int (J (0)), .int (J (8))])), (q1, qArr D.2.2.2.1 6 (va_up (va_up (va_up (va_up (va_up (fun _ => none) 0 (some q6)) 1 (some q8)) 2 (some q10)) 3 (some q12)) 4 (some q14))), (q2, .inr (3, [.int (J (0)), .int (J (0)), .int (J (0)), .int (J (0)), .int (J (0)), .int (J (-9)), .int (J (0))])), (q4, .inr (1, [.ref (u5 0), .ref (u5 1), .int (J (0))])), ((u5 0), qInt D.2.1 40 (fun _ => J 0)), ((u5 1), qInt D.2.1 40 (fun _ => J 0)), (q6, .inr (3, [.int (J (0)), .int (J (0)), .int (J (0)), .int (J (0)), .int (J (0)), .int (J (-9)), .int (J (0))])), (q8, .inr (3, [.int (J (0)), .int (J (0)), .int (J (0)), .int (J (0)), .int (J (0)), .int (J (-9)), .int (J (0))])), (q10, .inr (3, [.int (J (0)), .int (J (0)), .int (J (0)), .int (J (0)), .int (J (0)), .int (J (-9)), .int (J (0))])), (q12, .inr (3, [.int (J (0)), .int (J (0)), .int (J (0)), .int (J (0)), .int (J (0)), .int (J (-9)), .int (J (0))])), (q14, .inr (3, [.int (J (0)), .int (J (0)), .int (J (0)), .int (J (0)), .int (J (0)), .int (J (-9)), .int (J (0))]))]) (k' := 10) (n' := 131) rfl rfl rfl ?_
  refine n_iinc F [(1, .int (J (5))), (0, .ref h)] 0 rfl dX0_init_63 (by decide) rfl ?_
  refine n_goto F 44 dX0_init_66 rfl ?_
  refine n_iload_n F dX0_init_44 rfl 0 rfl ?_
  refine n_bipush F dX0_init_45 (6) (by decide) ?_
  refine n_geF F 69 dX0_init_47 (by decide) (by decide) rfl (by decide) ?_
  refine n_aload_n F dX0_init_50 rfl 1 rfl ?_
  refine n_get (T := TX0) F lA0 0 rfl rfl 0 (by decide) fk_X0_11 rfl rfl dX0_init_51 ?_
  refine n_iload_n F dX0_init_54 rfl 0 rfl ?_
  refine n_new (ci := 3) (fs := [.int (J (0)), .int (J (0)), .int (J (0)), .int (J (0)), .int (J (0)), .int (J (0)), .int (J (0))]) F lA3 tyX3 tyX3_ok (tA 50 (by decide +kernel) rfl) (tA 52 (by decide +kernel) rfl) ki_X3_init.2 rfl fs3_ok (Nat.le_of_ble_eq_true rfl) (Nat.le_of_ble_eq_true rfl) dX0_init_55 (fun q16 => ?_)
  refine n_dup F dX0_init_58 rfl ?_
  refine n_callN 0 F (As := []) (st := [.ref q16, .int (J (5)), .ref q1]) (c_X3_init l D (q16)) mk_X0_17 ki_X3_init kc_X3_init rfl (by decide +kernel) rfl (by decide) (by decide) dX0_init_59 rfl (Nat.le_of_ble_eq_true rfl) (fun u17 => ?_)
  refine n_ws (ws' := [(h, .inr (0, [.ref q1, .ref q2, .ref q4, .int (J (0)), .int (J (0)), .int (J (0)), .int (J (0)), .int (J (0)), .int (J (8))])), (q1, qArr D.2.2.2.1 6 (va_up (va_up (va_up (va_up (va_up (fun _ => none) 0 (some q6)) 1 (some q8)) 2 (some q10)) 3 (some q12)) 4 (some q14))), (q2, .inr (3, [.int (J (0)), .int (J (0)), .int (J (0)), .int (J (0)), .int (J (0)), .int (J (-9)), .int (J (0))])), (q4, .inr (1, [.ref (u5 0), .ref (u5 1), .int (J (0))])), ((u5 0), qInt D.2.1 40 (fun _ => J 0)), ((u5 1), qInt D.2.1 40 (fun _ => J 0)), (q6, .inr (3, [.int (J (0)), .int (J (0)), .int (J (0)), .int (J (0)), .int (J (0)), .int (J (-9)), .int (J (0))])), (q8, .inr (3, [.int (J (0)), .int (J (0)), .int (J (0)), .int (J (0)), .int (J (0)), .int (J (-9)), .int (J (0))])), (q10, .inr (3, [.int (J (0)), .int (J (0)), .int (J (0)), .int (J (0)), .int (J (0)), .int (J (-9)), .int (J (0))])), (q12, .inr (3, [.int (J (0)), .int (J (0)), .int (J (0)), .int (J (0)), .int (J (0)), .int (J (-9)), .int (J (0))])), (q14, .inr (3, [.int (J (0)), .int (J (0)), .int (J (0)), .int (J (0)), .int (J (0)), .int (J (-9)), .int (J (0))])), (q16, .inr (3, [.int (J (0)), .int (J (0)), .int (J (0)), .int (J (0)), .int (J (0)), .int (J (-9)), .int (J (0))]))]) (k' := 11) (n' := 138) rfl rfl rfl ?_
  refine n_aast F 1 2 11 5 rfl rfl rfl rfl rfl (by decide) (by decide) dX0_init_62 ?_
  refine n_ws (ws' := [(h, .inr (0, [.ref q1, .ref q2, .ref q4, .int (J (0)), .int (J (0)), .int (J (0)), .int (J (0)), .int (J (0)), .int (J (8))])), (q1, qArr D.2.2.2.1 6 (va_up (va_up (va_up (va_up (va_up (va_up (fun _ => none) 0 (some q6)) 1 (some q8)) 2 (some q10)) 3 (some q12)) 4 (some q14)) 5 (some q16))), (q2, .inr (3, [.int (J (0)), .int (J (0)), .int (J (0)), .int (J (0)), .int (J (0)), .int (J (-9)), .int (J (0))])), (q4, .inr (1, [.ref (u5 0), .ref (u5 1), .int (J (0))])), ((u5 0), qInt D.2.1 40 (fun _ => J 0)), ((u5 1), qInt D.2.1 40 (fun _ => J 0)), (q6, .inr (3, [.int (J (0)), .int (J (0)), .int (J (0)), .int (J (0)), .int (J (0)), .int (J (-9)), .int (J (0))])), (q8, .inr (3, [.int (J (0)), .int (J (0)), .int (J (0)), .int (J (0)), .int (J (0)), .int (J (-9)), .int (J (0))])), (q10, .inr (3, [.int (J (0)), .int (J (0)), .int (J (0)), .int (J (0)), .int (J (0)), .int (J (-9)), .int (J (0))])), (q12, .inr (3, [.int (J (0)), .int (J (0)), .int (J (0)), .int (J (0)), .int (J (0)), .int (J (-9)), .int (J (0))])), (q14, .inr (3, [.int (J (0)), .int (J (0)), .int (J (0)), .int (J (0)), .int (J (0)), .int (J (-9)), .int (J (0))])), (q16, .inr (3, [.int (J (0)), .int (J (0)), .int (J (0)), .int (J (0)), .int (J (0)), .int (J (-9)), .int (J (0))]))]) (k' := 11) (n' := 138) rfl rfl rfl ?_
  refine n_iinc F [(1, .int (J (6))), (0, .ref h)] 0 rfl dX0_init_63 (by decide) rfl ?_
  refine n_goto F 44 dX0_init_66 rfl ?_
  refine n_iload_n F dX0_init_44 rfl 0 rfl ?_
  refine n_bipush F dX0_init_45 (6) (by decide) ?_
  refine n_geT F 69 dX0_init_47 (by decide) (by decide) rfl (by decide) ?_
  refine n_cell 1 (e' := qArr D.2.2.2.1 6 (fun j => some ((fun j => [q1, q2, q4, (u5 0), (u5 1), q6, q8, q10, q12, q14, q16].getD j 0) (5 + j)))) rfl (qArr_x (fun j hj => by rcases (show j = 0 ∨ j = 1 ∨ j = 2 ∨ j = 3 ∨ j = 4 ∨ j = 5 by omega) with rfl | rfl | rfl | rfl | rfl | rfl <;> rfl)) ?_
  exact n_ret (st := []) F hR dX0_init_69 (fun j => [q1, q2, q4, (u5 0), (u5 1), q6, q8, q10, q12, q14, q16].getD j 0) rfl rfl rfl

