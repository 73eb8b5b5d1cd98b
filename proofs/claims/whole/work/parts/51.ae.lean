
/-! ===== constructors ===== -/
theorem dfX0 : ∀ j, j < 5 → defaultValue (tyX0 j) = vp_V [.null, .null, .int 0, .int 0, .int 0] j := by
  intro j hj
  rcases (by omega : j = 0 ∨ j = 1 ∨ j = 2 ∨ j = 3 ∨ j = 4) with rfl | rfl | rfl | rfl | rfl <;> rfl
theorem dfX2 : ∀ j, j < 6 → defaultValue (tyX2 j) = vp_V [.null, .null, .null, .null, .int 0, .int 0] j := by
  intro j hj
  rcases (by omega : j = 0 ∨ j = 1 ∨ j = 2 ∨ j = 3 ∨ j = 4 ∨ j = 5) with rfl | rfl | rfl | rfl | rfl | rfl <;> rfl
theorem dfX3 : ∀ j, j < 3 → defaultValue (tyX3 j) = vp_V [.null, .null, .int 0] j := by
  intro j hj
  rcases (by omega : j = 0 ∨ j = 1 ∨ j = 2) with rfl | rfl | rfl <;> rfl
theorem dfX4 : ∀ j, j < 5 → defaultValue (tyX4 j) = vp_V [.null, .int 0, .int 0, .int 0, .int 0] j := by
  intro j hj
  rcases (by omega : j = 0 ∨ j = 1 ∨ j = 2 ∨ j = 3 ∨ j = 4) with rfl | rfl | rfl | rfl | rfl <;> rfl
theorem dfX5 : ∀ j, j < 7 → defaultValue (tyX5 j) = vp_V [.null, .null, .null, .null, .null, .null, .int 0] j := by
  intro j hj
  rcases (by omega : j = 0 ∨ j = 1 ∨ j = 2 ∨ j = 3 ∨ j = 4 ∨ j = 5 ∨ j = 6) with rfl | rfl | rfl | rfl | rfl | rfl | rfl <;> rfl
theorem dfX6 : ∀ j, j < 5 → defaultValue (tyX6 j) = vp_V [.null, .int 0, .int 0, .int 0, .int 0] j := by
  intro j hj
  rcases (by omega : j = 0 ∨ j = 1 ∨ j = 2 ∨ j = 3 ∨ j = 4) with rfl | rfl | rfl | rfl | rfl <;> rfl
theorem dfX7 : ∀ j, j < 8 → defaultValue (tyX7 j) = vp_V [.null, .null, .null, .null, .int 0, .int 0, .int 0, .int 0] j := by
  intro j hj
  rcases (by omega : j = 0 ∨ j = 1 ∨ j = 2 ∨ j = 3 ∨ j = 4 ∨ j = 5 ∨ j = 6 ∨ j = 7) with rfl | rfl | rfl | rfl | rfl | rfl | rfl | rfl <;> rfl
theorem dfX8 : ∀ j, j < 5 → defaultValue (tyX8 j) = vp_V [.null, .null, .null, .null, .int 0] j := by
  intro j hj
  rcases (by omega : j = 0 ∨ j = 1 ∨ j = 2 ∨ j = 3 ∨ j = 4) with rfl | rfl | rfl | rfl | rfl <;> rfl
theorem dfX9 : ∀ j, j < 5 → defaultValue (tyX9 j) = vp_V [.null, .int 0, .null, .int 0, .int 0] j := by
  intro j hj
  rcases (by omega : j = 0 ∨ j = 1 ∨ j = 2 ∨ j = 3 ∨ j = 4) with rfl | rfl | rfl | rfl | rfl <;> rfl
theorem dfX10 : ∀ j, j < 12 → defaultValue (tyX10 j) = vp_V [.null, .null, .null, .null, .null, .null, .null, .null, .null, .null, .int 0, .int 0] j := by
  intro j hj
  rcases (by omega : j = 0 ∨ j = 1 ∨ j = 2 ∨ j = 3 ∨ j = 4 ∨ j = 5 ∨ j = 6 ∨ j = 7 ∨ j = 8 ∨ j = 9 ∨ j = 10 ∨ j = 11) with rfl | rfl | rfl | rfl | rfl | rfl | rfl | rfl | rfl | rfl | rfl | rfl <;> rfl
theorem dfX11 : ∀ j, j < 50 → defaultValue (tyX11 j) = vp_V [.int 0, .null, .null, .null, .null, .null, .null, .int 0, .int 0, .int 0, .null, .null, .null, .null, .null, .int 0, .int 0, .int 0, .int 0, .int 0, .null, .null, .null, .null, .null, .null, .null, .int 0, .null, .null, .null, .int 0, .int 0, .int 0, .int 0, .null, .null, .null, .int 0, .null, .null, .null, .int 0, .null, .int 0, .null, .null, .null, .null, .null] j := by
  intro j hj
  rcases (by omega : j = 0 ∨ j = 1 ∨ j = 2 ∨ j = 3 ∨ j = 4 ∨ j = 5 ∨ j = 6 ∨ j = 7 ∨ j = 8 ∨ j = 9 ∨ j = 10 ∨ j = 11 ∨ j = 12 ∨ j = 13 ∨ j = 14 ∨ j = 15 ∨ j = 16 ∨ j = 17 ∨ j = 18 ∨ j = 19 ∨ j = 20 ∨ j = 21 ∨ j = 22 ∨ j = 23 ∨ j = 24 ∨ j = 25 ∨ j = 26 ∨ j = 27 ∨ j = 28 ∨ j = 29 ∨ j = 30 ∨ j = 31 ∨ j = 32 ∨ j = 33 ∨ j = 34 ∨ j = 35 ∨ j = 36 ∨ j = 37 ∨ j = 38 ∨ j = 39 ∨ j = 40 ∨ j = 41 ∨ j = 42 ∨ j = 43 ∨ j = 44 ∨ j = 45 ∨ j = 46 ∨ j = 47 ∨ j = 48 ∨ j = 49) with rfl | rfl | rfl | rfl | rfl | rfl | rfl | rfl | rfl | rfl | rfl | rfl | rfl | rfl | rfl | rfl | rfl | rfl | rfl | rfl | rfl | rfl | rfl | rfl | rfl | rfl | rfl | rfl | rfl | rfl | rfl | rfl | rfl | rfl | rfl | rfl | rfl | rfl | rfl | rfl | rfl | rfl | rfl | rfl | rfl | rfl | rfl | rfl | rfl | rfl <;> rfl

theorem fr_rng : ∀ k, k < 15 → 0 ≤ (frB.getD k 0).toInt ∧ (frB.getD k 0).toInt < 128 ∧ (frB.getD k 0) &&& 255 = frB.getD k 0 ∧ ((frB.getD k 0).toUInt32 % 65536).toInt32 = frB.getD k 0 ∧ narrow .char (.int (frB.getD k 0)) = .int (frB.getD k 0) := by
  intro k hk
  rcases (by omega : k = 0 ∨ k = 1 ∨ k = 2 ∨ k = 3 ∨ k = 4 ∨ k = 5 ∨ k = 6 ∨ k = 7 ∨ k = 8 ∨ k = 9 ∨ k = 10 ∨ k = 11 ∨ k = 12 ∨ k = 13 ∨ k = 14) with rfl | rfl | rfl | rfl | rfl | rfl | rfl | rfl | rfl | rfl | rfl | rfl | rfl | rfl | rfl <;> exact ⟨by decide, by decide, by decide, by decide, rfl⟩
theorem in_X8_init_X8 : ∀ w ∈ wsX80, w ∈ wsX8_init := fun w h => List.mem_cons_of_mem _ (List.mem_append_right _ h)
set_option maxHeartbeats 4000000 in
set_option maxRecDepth 100000 in
theorem c_X8_init (l : Launch) (D : va_G) (Y : Nat → ClassId) (o : Nat) : Mg l yX8_init wsX8_init ({ frames := 1, cells := 4, slots := 108, locals := 24 }) D Y [(o, .inr (7, [.null, .null, .null, .null, .int (0 : Int32)]))] [.ref o] 4 108 (fun vv__ ww__ => (∃ (p : Nat), ∃ (h : Nat), ∃ (sa : Nat), ∃ (si : Nat), vv__ = none ∧ ww__ = [(o, .inr (7, [.ref p, .ref h, .ref sa, .ref si, .int (0 : Int32)])), (p, .inl (Y 0, 36, .inl (fun _ => 0))), (h, .inl (Y 0, 24, .inl (fun _ => 0))), (sa, .inl (Y 0, 24, .inl (fun _ => 0))), (si, .inl (Y 0, 24, .inl (fun _ => 0)))])) := by
  refine Mg_of (cc := cX8_init) (maxL := 1) (ret := none) (ls0 := [(0, .ref o)]) RX8 (by decide) rfl rfl rfl (Nat.le_of_ble_eq_true rfl) (fun p__ e__ s__ m__ b__ t__ c__ X hr hn => ?_)
  refine V_aload_n X 0 rfl dX8_init_0 ?_
  refine V_objInit X (List.mem_of_getElem? (i := 1) rfl) (List.mem_of_getElem? (i := 2) rfl) (List.mem_of_getElem? (i := 3) rfl) (Nat.le_of_ble_eq_true rfl) (Nat.le_of_ble_eq_true rfl) dX8_init_1 ?_
  refine V_aload_n X 0 rfl dX8_init_4 ?_
  refine V_bipush (v := (36 : Int32)) X (by decide) dX8_init_5 ?_
  refine V_newaI X (N := 36) (show (36 : Int32).toInt = ((36 : Nat) : Int) from (show (36 : Int32).toInt = 36 from by decide)) (List.mem_of_getElem? (i := 4) rfl) (Nat.le_of_ble_eq_true rfl) (Nat.le_of_ble_eq_true rfl) (Nat.le_of_ble_eq_true rfl) dX8_init_7 (fun q_1 => ?_)
  refine V_to (ws' := [(o, .inr (7, [.null, .null, .null, .null, .int (0 : Int32)])), (q_1, .inl (Y 0, 36, .inl (fun _ => 0)))]) ?_ rfl rfl rfl rfl
  refine V_putF (C := RX8) (T := TX8) (N := 5) (ci := 7) (v := .ref q_1) (ty := tyX8 0) (ws' := [(o, .inr (7, [.ref q_1, .null, .null, .null, .int (0 : Int32)])), (q_1, .inl (Y 0, 36, .inl (fun _ => 0)))]) X in_X8_init_X8 0 rfl rfl 0 (by decide) (List.mem_of_getElem? (i := 5) rfl) rfl tyX8 tyX8_ok nmX8 rfl hn rfl (tyX8_ok 0 (by decide)) rfl rfl (Nat.le_of_ble_eq_true rfl) rfl dX8_init_9 ?_
  refine V_aload_n X 0 rfl dX8_init_12 ?_
  refine V_bipush (v := (24 : Int32)) X (by decide) dX8_init_13 ?_
  refine V_newaI X (N := 24) (show (24 : Int32).toInt = ((24 : Nat) : Int) from (show (24 : Int32).toInt = 24 from by decide)) (List.mem_of_getElem? (i := 4) rfl) (Nat.le_of_ble_eq_true rfl) (Nat.le_of_ble_eq_true rfl) (Nat.le_of_ble_eq_true rfl) dX8_init_15 (fun q_2 => ?_)
  refine V_to (ws' := [(o, .inr (7, [.ref q_1, .null, .null, .null, .int (0 : Int32)])), (q_1, .inl (Y 0, 36, .inl (fun _ => 0))), (q_2, .inl (Y 0, 24, .inl (fun _ => 0)))]) ?_ rfl rfl rfl rfl
  refine V_putF (C := RX8) (T := TX8) (N := 5) (ci := 7) (v := .ref q_2) (ty := tyX8 1) (ws' := [(o, .inr (7, [.ref q_1, .ref q_2, .null, .null, .int (0 : Int32)])), (q_1, .inl (Y 0, 36, .inl (fun _ => 0))), (q_2, .inl (Y 0, 24, .inl (fun _ => 0)))]) X in_X8_init_X8 0 rfl rfl 1 (by decide) (List.mem_of_getElem? (i := 6) rfl) rfl tyX8 tyX8_ok nmX8 rfl hn rfl (tyX8_ok 1 (by decide)) rfl rfl (Nat.le_of_ble_eq_true rfl) rfl dX8_init_17 ?_
  refine V_aload_n X 0 rfl dX8_init_20 ?_
  refine V_bipush (v := (24 : Int32)) X (by decide) dX8_init_21 ?_
  refine V_newaI X (N := 24) (show (24 : Int32).toInt = ((24 : Nat) : Int) from (show (24 : Int32).toInt = 24 from by decide)) (List.mem_of_getElem? (i := 4) rfl) (Nat.le_of_ble_eq_true rfl) (Nat.le_of_ble_eq_true rfl) (Nat.le_of_ble_eq_true rfl) dX8_init_23 (fun q_3 => ?_)
  refine V_to (ws' := [(o, .inr (7, [.ref q_1, .ref q_2, .null, .null, .int (0 : Int32)])), (q_1, .inl (Y 0, 36, .inl (fun _ => 0))), (q_2, .inl (Y 0, 24, .inl (fun _ => 0))), (q_3, .inl (Y 0, 24, .inl (fun _ => 0)))]) ?_ rfl rfl rfl rfl
  refine V_putF (C := RX8) (T := TX8) (N := 5) (ci := 7) (v := .ref q_3) (ty := tyX8 2) (ws' := [(o, .inr (7, [.ref q_1, .ref q_2, .ref q_3, .null, .int (0 : Int32)])), (q_1, .inl (Y 0, 36, .inl (fun _ => 0))), (q_2, .inl (Y 0, 24, .inl (fun _ => 0))), (q_3, .inl (Y 0, 24, .inl (fun _ => 0)))]) X in_X8_init_X8 0 rfl rfl 2 (by decide) (List.mem_of_getElem? (i := 7) rfl) rfl tyX8 tyX8_ok nmX8 rfl hn rfl (tyX8_ok 2 (by decide)) rfl rfl (Nat.le_of_ble_eq_true rfl) rfl dX8_init_25 ?_
  refine V_aload_n X 0 rfl dX8_init_28 ?_
  refine V_bipush (v := (24 : Int32)) X (by decide) dX8_init_29 ?_
  refine V_newaI X (N := 24) (show (24 : Int32).toInt = ((24 : Nat) : Int) from (show (24 : Int32).toInt = 24 from by decide)) (List.mem_of_getElem? (i := 4) rfl) (Nat.le_of_ble_eq_true rfl) (Nat.le_of_ble_eq_true rfl) (Nat.le_of_ble_eq_true rfl) dX8_init_31 (fun q_4 => ?_)
  refine V_to (ws' := [(o, .inr (7, [.ref q_1, .ref q_2, .ref q_3, .null, .int (0 : Int32)])), (q_1, .inl (Y 0, 36, .inl (fun _ => 0))), (q_2, .inl (Y 0, 24, .inl (fun _ => 0))), (q_3, .inl (Y 0, 24, .inl (fun _ => 0))), (q_4, .inl (Y 0, 24, .inl (fun _ => 0)))]) ?_ rfl rfl rfl rfl
  refine V_putF (C := RX8) (T := TX8) (N := 5) (ci := 7) (v := .ref q_4) (ty := tyX8 3) (ws' := [(o, .inr (7, [.ref q_1, .ref q_2, .ref q_3, .ref q_4, .int (0 : Int32)])), (q_1, .inl (Y 0, 36, .inl (fun _ => 0))), (q_2, .inl (Y 0, 24, .inl (fun _ => 0))), (q_3, .inl (Y 0, 24, .inl (fun _ => 0))), (q_4, .inl (Y 0, 24, .inl (fun _ => 0)))]) X in_X8_init_X8 0 rfl rfl 3 (by decide) (List.mem_of_getElem? (i := 8) rfl) rfl tyX8 tyX8_ok nmX8 rfl hn rfl (tyX8_ok 3 (by decide)) rfl rfl (Nat.le_of_ble_eq_true rfl) rfl dX8_init_33 ?_
  refine V_widen (k' := 4) (n' := 108) (Nat.le_of_ble_eq_true rfl) (Nat.le_of_ble_eq_true rfl) ?_
  exact V_vret X hr dX8_init_36 (⟨q_1, q_2, q_3, q_4, rfl, rfl⟩)

theorem in_X2_init_X2 : ∀ w ∈ wsX20, w ∈ wsX2_init := fun w h => List.mem_cons_of_mem _ (List.mem_append_right _ h)
set_option maxHeartbeats 4000000 in
set_option maxRecDepth 100000 in
theorem c_X2_init (l : Launch) (D : va_G) (Y : Nat → ClassId) (cg : Nat) : Mg l yX2_init wsX2_init ({ frames := 1, cells := 4, slots := 160, locals := 24 }) D Y [(cg, .inr (1, [.null, .null, .null, .null, .int (0 : Int32), .int (0 : Int32)]))] [.ref cg] 4 160 (fun vv__ ww__ => (∃ (c1 : Nat), ∃ (c2 : Nat), ∃ (c3 : Nat), ∃ (c4 : Nat), vv__ = none ∧ ww__ = [(cg, .inr (1, [.ref c1, .ref c2, .ref c3, .ref c4, .int (0 : Int32), .int (0 : Int32)])), (c1, .inl (Y 0, 40, .inl (fun _ => 0))), (c2, .inl (Y 0, 40, .inl (fun _ => 0))), (c3, .inl (Y 0, 40, .inl (fun _ => 0))), (c4, .inl (Y 0, 40, .inl (fun _ => 0)))])) := by
  refine Mg_of (cc := cX2_init) (maxL := 1) (ret := none) (ls0 := [(0, .ref cg)]) RX2 (by decide) rfl rfl rfl (Nat.le_of_ble_eq_true rfl) (fun p__ e__ s__ m__ b__ t__ c__ X hr hn => ?_)
  refine V_aload_n X 0 rfl dX2_init_0 ?_
  refine V_objInit X (List.mem_of_getElem? (i := 1) rfl) (List.mem_of_getElem? (i := 2) rfl) (List.mem_of_getElem? (i := 3) rfl) (Nat.le_of_ble_eq_true rfl) (Nat.le_of_ble_eq_true rfl) dX2_init_1 ?_
  refine V_aload_n X 0 rfl dX2_init_4 ?_
  refine V_bipush (v := (40 : Int32)) X (by decide) dX2_init_5 ?_
  refine V_newaI X (N := 40) (show (40 : Int32).toInt = ((40 : Nat) : Int) from (show (40 : Int32).toInt = 40 from by decide)) (List.mem_of_getElem? (i := 4) rfl) (Nat.le_of_ble_eq_true rfl) (Nat.le_of_ble_eq_true rfl) (Nat.le_of_ble_eq_true rfl) dX2_init_7 (fun q_1 => ?_)
  refine V_to (ws' := [(cg, .inr (1, [.null, .null, .null, .null, .int (0 : Int32), .int (0 : Int32)])), (q_1, .inl (Y 0, 40, .inl (fun _ => 0)))]) ?_ rfl rfl rfl rfl
  refine V_putF (C := RX2) (T := TX2) (N := 6) (ci := 1) (v := .ref q_1) (ty := tyX2 0) (ws' := [(cg, .inr (1, [.ref q_1, .null, .null, .null, .int (0 : Int32), .int (0 : Int32)])), (q_1, .inl (Y 0, 40, .inl (fun _ => 0)))]) X in_X2_init_X2 0 rfl rfl 0 (by decide) (List.mem_of_getElem? (i := 5) rfl) rfl tyX2 tyX2_ok nmX2 rfl hn rfl (tyX2_ok 0 (by decide)) rfl rfl (Nat.le_of_ble_eq_true rfl) rfl dX2_init_9 ?_
  refine V_aload_n X 0 rfl dX2_init_12 ?_
  refine V_bipush (v := (40 : Int32)) X (by decide) dX2_init_13 ?_
  refine V_newaI X (N := 40) (show (40 : Int32).toInt = ((40 : Nat) : Int) from (show (40 : Int32).toInt = 40 from by decide)) (List.mem_of_getElem? (i := 4) rfl) (Nat.le_of_ble_eq_true rfl) (Nat.le_of_ble_eq_true rfl) (Nat.le_of_ble_eq_true rfl) dX2_init_15 (fun q_2 => ?_)
  refine V_to (ws' := [(cg, .inr (1, [.ref q_1, .null, .null, .null, .int (0 : Int32), .int (0 : Int32)])), (q_1, .inl (Y 0, 40, .inl (fun _ => 0))), (q_2, .inl (Y 0, 40, .inl (fun _ => 0)))]) ?_ rfl rfl rfl rfl
  refine V_putF (C := RX2) (T := TX2) (N := 6) (ci := 1) (v := .ref q_2) (ty := tyX2 1) (ws' := [(cg, .inr (1, [.ref q_1, .ref q_2, .null, .null, .int (0 : Int32), .int (0 : Int32)])), (q_1, .inl (Y 0, 40, .inl (fun _ => 0))), (q_2, .inl (Y 0, 40, .inl (fun _ => 0)))]) X in_X2_init_X2 0 rfl rfl 1 (by decide) (List.mem_of_getElem? (i := 6) rfl) rfl tyX2 tyX2_ok nmX2 rfl hn rfl (tyX2_ok 1 (by decide)) rfl rfl (Nat.le_of_ble_eq_true rfl) rfl dX2_init_17 ?_
  refine V_aload_n X 0 rfl dX2_init_20 ?_
  refine V_bipush (v := (40 : Int32)) X (by decide) dX2_init_21 ?_
  refine V_newaI X (N := 40) (show (40 : Int32).toInt = ((40 : Nat) : Int) from (show (40 : Int32).toInt = 40 from by decide)) (List.mem_of_getElem? (i := 4) rfl) (Nat.le_of_ble_eq_true rfl) (Nat.le_of_ble_eq_true rfl) (Nat.le_of_ble_eq_true rfl) dX2_init_23 (fun q_3 => ?_)
  refine V_to (ws' := [(cg, .inr (1, [.ref q_1, .ref q_2, .null, .null, .int (0 : Int32), .int (0 : Int32)])), (q_1, .inl (Y 0, 40, .inl (fun _ => 0))), (q_2, .inl (Y 0, 40, .inl (fun _ => 0))), (q_3, .inl (Y 0, 40, .inl (fun _ => 0)))]) ?_ rfl rfl rfl rfl
  refine V_putF (C := RX2) (T := TX2) (N := 6) (ci := 1) (v := .ref q_3) (ty := tyX2 2) (ws' := [(cg, .inr (1, [.ref q_1, .ref q_2, .ref q_3, .null, .int (0 : Int32), .int (0 : Int32)])), (q_1, .inl (Y 0, 40, .inl (fun _ => 0))), (q_2, .inl (Y 0, 40, .inl (fun _ => 0))), (q_3, .inl (Y 0, 40, .inl (fun _ => 0)))]) X in_X2_init_X2 0 rfl rfl 2 (by decide) (List.mem_of_getElem? (i := 7) rfl) rfl tyX2 tyX2_ok nmX2 rfl hn rfl (tyX2_ok 2 (by decide)) rfl rfl (Nat.le_of_ble_eq_true rfl) rfl dX2_init_25 ?_
  refine V_aload_n X 0 rfl dX2_init_28 ?_
  refine V_bipush (v := (40 : Int32)) X (by decide) dX2_init_29 ?_
  refine V_newaI X (N := 40) (show (40 : Int32).toInt = ((40 : Nat) : Int) from (show (40 : Int32).toInt = 40 from by decide)) (List.mem_of_getElem? (i := 4) rfl) (Nat.le_of_ble_eq_true rfl) (Nat.le_of_ble_eq_true rfl) (Nat.le_of_ble_eq_true rfl) dX2_init_31 (fun q_4 => ?_)
  refine V_to (ws' := [(cg, .inr (1, [.ref q_1, .ref q_2, .ref q_3, .null, .int (0 : Int32), .int (0 : Int32)])), (q_1, .inl (Y 0, 40, .inl (fun _ => 0))), (q_2, .inl (Y 0, 40, .inl (fun _ => 0))), (q_3, .inl (Y 0, 40, .inl (fun _ => 0))), (q_4, .inl (Y 0, 40, .inl (fun _ => 0)))]) ?_ rfl rfl rfl rfl
  refine V_putF (C := RX2) (T := TX2) (N := 6) (ci := 1) (v := .ref q_4) (ty := tyX2 3) (ws' := [(cg, .inr (1, [.ref q_1, .ref q_2, .ref q_3, .ref q_4, .int (0 : Int32), .int (0 : Int32)])), (q_1, .inl (Y 0, 40, .inl (fun _ => 0))), (q_2, .inl (Y 0, 40, .inl (fun _ => 0))), (q_3, .inl (Y 0, 40, .inl (fun _ => 0))), (q_4, .inl (Y 0, 40, .inl (fun _ => 0)))]) X in_X2_init_X2 0 rfl rfl 3 (by decide) (List.mem_of_getElem? (i := 8) rfl) rfl tyX2 tyX2_ok nmX2 rfl hn rfl (tyX2_ok 3 (by decide)) rfl rfl (Nat.le_of_ble_eq_true rfl) rfl dX2_init_33 ?_
  refine V_widen (k' := 4) (n' := 160) (Nat.le_of_ble_eq_true rfl) (Nat.le_of_ble_eq_true rfl) ?_
  exact V_vret X hr dX2_init_36 (⟨q_1, q_2, q_3, q_4, rfl, rfl⟩)

theorem in_X0_init_X0 : ∀ w ∈ wsX00, w ∈ wsX0_init := fun w h => List.mem_cons_of_mem _ (List.mem_append_right _ h)
set_option maxHeartbeats 4000000 in
set_option maxRecDepth 100000 in
theorem c_X0_init (l : Launch) (D : va_G) (Y : Nat → ClassId) (at_ : Nat) : Mg l yX0_init wsX0_init ({ frames := 1, cells := 2, slots := 74, locals := 24 }) D Y [(at_, .inr (0, [.null, .null, .int (0 : Int32), .int (0 : Int32), .int (0 : Int32)]))] [.ref at_] 2 74 (fun vv__ ww__ => (∃ (ka : Nat), ∃ (ta : Nat), vv__ = none ∧ ww__ = [(at_, .inr (0, [.ref ka, .ref ta, .int (0 : Int32), .int (0 : Int32), .int (0 : Int32)])), (ka, .inl (Y 0, 50, .inl (fun _ => 0))), (ta, .inl (Y 0, 24, .inl (fun _ => 0)))])) := by
  refine Mg_of (cc := cX0_init) (maxL := 1) (ret := none) (ls0 := [(0, .ref at_)]) RX0 (by decide) rfl rfl rfl (Nat.le_of_ble_eq_true rfl) (fun p__ e__ s__ m__ b__ t__ c__ X hr hn => ?_)
  refine V_aload_n X 0 rfl dX0_init_0 ?_
  refine V_objInit X (List.mem_of_getElem? (i := 1) rfl) (List.mem_of_getElem? (i := 2) rfl) (List.mem_of_getElem? (i := 3) rfl) (Nat.le_of_ble_eq_true rfl) (Nat.le_of_ble_eq_true rfl) dX0_init_1 ?_
  refine V_aload_n X 0 rfl dX0_init_4 ?_
  refine V_bipush (v := (50 : Int32)) X (by decide) dX0_init_5 ?_
  refine V_newaI X (N := 50) (show (50 : Int32).toInt = ((50 : Nat) : Int) from (show (50 : Int32).toInt = 50 from by decide)) (List.mem_of_getElem? (i := 4) rfl) (Nat.le_of_ble_eq_true rfl) (Nat.le_of_ble_eq_true rfl) (Nat.le_of_ble_eq_true rfl) dX0_init_7 (fun q_1 => ?_)
  refine V_to (ws' := [(at_, .inr (0, [.null, .null, .int (0 : Int32), .int (0 : Int32), .int (0 : Int32)])), (q_1, .inl (Y 0, 50, .inl (fun _ => 0)))]) ?_ rfl rfl rfl rfl
  refine V_putF (C := RX0) (T := TX0) (N := 5) (ci := 0) (v := .ref q_1) (ty := tyX0 0) (ws' := [(at_, .inr (0, [.ref q_1, .null, .int (0 : Int32), .int (0 : Int32), .int (0 : Int32)])), (q_1, .inl (Y 0, 50, .inl (fun _ => 0)))]) X in_X0_init_X0 0 rfl rfl 0 (by decide) (List.mem_of_getElem? (i := 5) rfl) rfl tyX0 tyX0_ok nmX0 rfl hn rfl (tyX0_ok 0 (by decide)) rfl rfl (Nat.le_of_ble_eq_true rfl) rfl dX0_init_9 ?_
  refine V_aload_n X 0 rfl dX0_init_12 ?_
  refine V_bipush (v := (24 : Int32)) X (by decide) dX0_init_13 ?_
  refine V_newaI X (N := 24) (show (24 : Int32).toInt = ((24 : Nat) : Int) from (show (24 : Int32).toInt = 24 from by decide)) (List.mem_of_getElem? (i := 4) rfl) (Nat.le_of_ble_eq_true rfl) (Nat.le_of_ble_eq_true rfl) (Nat.le_of_ble_eq_true rfl) dX0_init_15 (fun q_2 => ?_)
  refine V_to (ws' := [(at_, .inr (0, [.ref q_1, .null, .int (0 : Int32), .int (0 : Int32), .int (0 : Int32)])), (q_1, .inl (Y 0, 50, .inl (fun _ => 0))), (q_2, .inl (Y 0, 24, .inl (fun _ => 0)))]) ?_ rfl rfl rfl rfl
  refine V_putF (C := RX0) (T := TX0) (N := 5) (ci := 0) (v := .ref q_2) (ty := tyX0 1) (ws' := [(at_, .inr (0, [.ref q_1, .ref q_2, .int (0 : Int32), .int (0 : Int32), .int (0 : Int32)])), (q_1, .inl (Y 0, 50, .inl (fun _ => 0))), (q_2, .inl (Y 0, 24, .inl (fun _ => 0)))]) X in_X0_init_X0 0 rfl rfl 1 (by decide) (List.mem_of_getElem? (i := 6) rfl) rfl tyX0 tyX0_ok nmX0 rfl hn rfl (tyX0_ok 1 (by decide)) rfl rfl (Nat.le_of_ble_eq_true rfl) rfl dX0_init_17 ?_
  refine V_widen (k' := 2) (n' := 74) (Nat.le_of_ble_eq_true rfl) (Nat.le_of_ble_eq_true rfl) ?_
  exact V_vret X hr dX0_init_20 (⟨q_1, q_2, rfl, rfl⟩)

theorem in_X5_init_X5 : ∀ w ∈ wsX50, w ∈ wsX5_init := fun w h => List.mem_cons_of_mem _ (List.mem_append_right _ h)
set_option maxHeartbeats 4000000 in
set_option maxRecDepth 100000 in
theorem c_X5_init (l : Launch) (D : va_G) (Y : Nat → ClassId) (lw : Nat) : Mg l yX5_init wsX5_init ({ frames := 1, cells := 6, slots := 1670, locals := 24 }) D Y [(lw, .inr (4, [.null, .null, .null, .null, .null, .null, .int (0 : Int32)]))] [.ref lw] 6 1670 (fun vv__ ww__ => (∃ (ws_ : Nat), ∃ (ww : Nat), ∃ (wt : Nat), ∃ (wn : Nat), ∃ (wg : Nat), ∃ (wi : Nat), vv__ = none ∧ ww__ = [(lw, .inr (4, [.ref ws_, .ref ww, .ref wt, .ref wn, .ref wg, .ref wi, .int (0 : Int32)])), (ws_, .inl (Y 0, 128, .inl (fun _ => 0))), (ww, .inl (Y 0, 128, .inl (fun _ => 0))), (wt, .inl (Y 0, 128, .inl (fun _ => 0))), (wn, .inl (Y 0, 6, .inl (fun _ => 0))), (wg, .inl (Y 0, 640, .inl (fun _ => 0))), (wi, .inl (Y 0, 640, .inl (fun _ => 0)))])) := by
  refine Mg_of (cc := cX5_init) (maxL := 1) (ret := none) (ls0 := [(0, .ref lw)]) RX5 (by decide) rfl rfl rfl (Nat.le_of_ble_eq_true rfl) (fun p__ e__ s__ m__ b__ t__ c__ X hr hn => ?_)
  refine V_aload_n X 0 rfl dX5_init_0 ?_
  refine V_objInit X (List.mem_of_getElem? (i := 1) rfl) (List.mem_of_getElem? (i := 2) rfl) (List.mem_of_getElem? (i := 3) rfl) (Nat.le_of_ble_eq_true rfl) (Nat.le_of_ble_eq_true rfl) dX5_init_1 ?_
  refine V_aload_n X 0 rfl dX5_init_4 ?_
  refine V_sipush (v := (128 : Int32)) X (by decide) dX5_init_5 ?_
  refine V_newaI X (N := 128) (show (128 : Int32).toInt = ((128 : Nat) : Int) from (show (128 : Int32).toInt = 128 from by decide)) (List.mem_of_getElem? (i := 4) rfl) (Nat.le_of_ble_eq_true rfl) (Nat.le_of_ble_eq_true rfl) (Nat.le_of_ble_eq_true rfl) dX5_init_8 (fun q_1 => ?_)
  refine V_to (ws' := [(lw, .inr (4, [.null, .null, .null, .null, .null, .null, .int (0 : Int32)])), (q_1, .inl (Y 0, 128, .inl (fun _ => 0)))]) ?_ rfl rfl rfl rfl
  refine V_putF (C := RX5) (T := TX5) (N := 7) (ci := 4) (v := .ref q_1) (ty := tyX5 0) (ws' := [(lw, .inr (4, [.ref q_1, .null, .null, .null, .null, .null, .int (0 : Int32)])), (q_1, .inl (Y 0, 128, .inl (fun _ => 0)))]) X in_X5_init_X5 0 rfl rfl 0 (by decide) (List.mem_of_getElem? (i := 5) rfl) rfl tyX5 tyX5_ok nmX5 rfl hn rfl (tyX5_ok 0 (by decide)) rfl rfl (Nat.le_of_ble_eq_true rfl) rfl dX5_init_10 ?_
  refine V_aload_n X 0 rfl dX5_init_13 ?_
  refine V_sipush (v := (128 : Int32)) X (by decide) dX5_init_14 ?_
  refine V_newaI X (N := 128) (show (128 : Int32).toInt = ((128 : Nat) : Int) from (show (128 : Int32).toInt = 128 from by decide)) (List.mem_of_getElem? (i := 4) rfl) (Nat.le_of_ble_eq_true rfl) (Nat.le_of_ble_eq_true rfl) (Nat.le_of_ble_eq_true rfl) dX5_init_17 (fun q_2 => ?_)
  refine V_to (ws' := [(lw, .inr (4, [.ref q_1, .null, .null, .null, .null, .null, .int (0 : Int32)])), (q_1, .inl (Y 0, 128, .inl (fun _ => 0))), (q_2, .inl (Y 0, 128, .inl (fun _ => 0)))]) ?_ rfl rfl rfl rfl
  refine V_putF (C := RX5) (T := TX5) (N := 7) (ci := 4) (v := .ref q_2) (ty := tyX5 1) (ws' := [(lw, .inr (4, [.ref q_1, .ref q_2, .null, .null, .null, .null, .int (0 : Int32)])), (q_1, .inl (Y 0, 128, .inl (fun _ => 0))), (q_2, .inl (Y 0, 128, .inl (fun _ => 0)))]) X in_X5_init_X5 0 rfl rfl 1 (by decide) (List.mem_of_getElem? (i := 6) rfl) rfl tyX5 tyX5_ok nmX5 rfl hn rfl (tyX5_ok 1 (by decide)) rfl rfl (Nat.le_of_ble_eq_true rfl) rfl dX5_init_19 ?_
  refine V_aload_n X 0 rfl dX5_init_22 ?_
  refine V_sipush (v := (128 : Int32)) X (by decide) dX5_init_23 ?_
  refine V_newaI X (N := 128) (show (128 : Int32).toInt = ((128 : Nat) : Int) from (show (128 : Int32).toInt = 128 from by decide)) (List.mem_of_getElem? (i := 4) rfl) (Nat.le_of_ble_eq_true rfl) (Nat.le_of_ble_eq_true rfl) (Nat.le_of_ble_eq_true rfl) dX5_init_26 (fun q_3 => ?_)
  refine V_to (ws' := [(lw, .inr (4, [.ref q_1, .ref q_2, .null, .null, .null, .null, .int (0 : Int32)])), (q_1, .inl (Y 0, 128, .inl (fun _ => 0))), (q_2, .inl (Y 0, 128, .inl (fun _ => 0))), (q_3, .inl (Y 0, 128, .inl (fun _ => 0)))]) ?_ rfl rfl rfl rfl
  refine V_putF (C := RX5) (T := TX5) (N := 7) (ci := 4) (v := .ref q_3) (ty := tyX5 2) (ws' := [(lw, .inr (4, [.ref q_1, .ref q_2, .ref q_3, .null, .null, .null, .int (0 : Int32)])), (q_1, .inl (Y 0, 128, .inl (fun _ => 0))), (q_2, .inl (Y 0, 128, .inl (fun _ => 0))), (q_3, .inl (Y 0, 128, .inl (fun _ => 0)))]) X in_X5_init_X5 0 rfl rfl 2 (by decide) (List.mem_of_getElem? (i := 7) rfl) rfl tyX5 tyX5_ok nmX5 rfl hn rfl (tyX5_ok 2 (by decide)) rfl rfl (Nat.le_of_ble_eq_true rfl) rfl dX5_init_28 ?_
  refine V_aload_n X 0 rfl dX5_init_31 ?_
  refine V_bipush (v := (6 : Int32)) X (by decide) dX5_init_32 ?_
  refine V_newaI X (N := 6) (show (6 : Int32).toInt = ((6 : Nat) : Int) from (show (6 : Int32).toInt = 6 from by decide)) (List.mem_of_getElem? (i := 4) rfl) (Nat.le_of_ble_eq_true rfl) (Nat.le_of_ble_eq_true rfl) (Nat.le_of_ble_eq_true rfl) dX5_init_34 (fun q_4 => ?_)
  refine V_to (ws' := [(lw, .inr (4, [.ref q_1, .ref q_2, .ref q_3, .null, .null, .null, .int (0 : Int32)])), (q_1, .inl (Y 0, 128, .inl (fun _ => 0))), (q_2, .inl (Y 0, 128, .inl (fun _ => 0))), (q_3, .inl (Y 0, 128, .inl (fun _ => 0))), (q_4, .inl (Y 0, 6, .inl (fun _ => 0)))]) ?_ rfl rfl rfl rfl
  refine V_putF (C := RX5) (T := TX5) (N := 7) (ci := 4) (v := .ref q_4) (ty := tyX5 3) (ws' := [(lw, .inr (4, [.ref q_1, .ref q_2, .ref q_3, .ref q_4, .null, .null, .int (0 : Int32)])), (q_1, .inl (Y 0, 128, .inl (fun _ => 0))), (q_2, .inl (Y 0, 128, .inl (fun _ => 0))), (q_3, .inl (Y 0, 128, .inl (fun _ => 0))), (q_4, .inl (Y 0, 6, .inl (fun _ => 0)))]) X in_X5_init_X5 0 rfl rfl 3 (by decide) (List.mem_of_getElem? (i := 8) rfl) rfl tyX5 tyX5_ok nmX5 rfl hn rfl (tyX5_ok 3 (by decide)) rfl rfl (Nat.le_of_ble_eq_true rfl) rfl dX5_init_36 ?_
  refine V_aload_n X 0 rfl dX5_init_39 ?_
  refine V_sipush (v := (640 : Int32)) X (by decide) dX5_init_40 ?_
  refine V_newaI X (N := 640) (show (640 : Int32).toInt = ((640 : Nat) : Int) from (show (640 : Int32).toInt = 640 from by decide)) (List.mem_of_getElem? (i := 4) rfl) (Nat.le_of_ble_eq_true rfl) (Nat.le_of_ble_eq_true rfl) (Nat.le_of_ble_eq_true rfl) dX5_init_43 (fun q_5 => ?_)
  refine V_to (ws' := [(lw, .inr (4, [.ref q_1, .ref q_2, .ref q_3, .ref q_4, .null, .null, .int (0 : Int32)])), (q_1, .inl (Y 0, 128, .inl (fun _ => 0))), (q_2, .inl (Y 0, 128, .inl (fun _ => 0))), (q_3, .inl (Y 0, 128, .inl (fun _ => 0))), (q_4, .inl (Y 0, 6, .inl (fun _ => 0))), (q_5, .inl (Y 0, 640, .inl (fun _ => 0)))]) ?_ rfl rfl rfl rfl
  refine V_putF (C := RX5) (T := TX5) (N := 7) (ci := 4) (v := .ref q_5) (ty := tyX5 4) (ws' := [(lw, .inr (4, [.ref q_1, .ref q_2, .ref q_3, .ref q_4, .ref q_5, .null, .int (0 : Int32)])), (q_1, .inl (Y 0, 128, .inl (fun _ => 0))), (q_2, .inl (Y 0, 128, .inl (fun _ => 0))), (q_3, .inl (Y 0, 128, .inl (fun _ => 0))), (q_4, .inl (Y 0, 6, .inl (fun _ => 0))), (q_5, .inl (Y 0, 640, .inl (fun _ => 0)))]) X in_X5_init_X5 0 rfl rfl 4 (by decide) (List.mem_of_getElem? (i := 9) rfl) rfl tyX5 tyX5_ok nmX5 rfl hn rfl (tyX5_ok 4 (by decide)) rfl rfl (Nat.le_of_ble_eq_true rfl) rfl dX5_init_45 ?_
  refine V_aload_n X 0 rfl dX5_init_48 ?_
  refine V_sipush (v := (640 : Int32)) X (by decide) dX5_init_49 ?_
  refine V_newaI X (N := 640) (show (640 : Int32).toInt = ((640 : Nat) : Int) from (show (640 : Int32).toInt = 640 from by decide)) (List.mem_of_getElem? (i := 4) rfl) (Nat.le_of_ble_eq_true rfl) (Nat.le_of_ble_eq_true rfl) (Nat.le_of_ble_eq_true rfl) dX5_init_52 (fun q_6 => ?_)
  refine V_to (ws' := [(lw, .inr (4, [.ref q_1, .ref q_2, .ref q_3, .ref q_4, .ref q_5, .null, .int (0 : Int32)])), (q_1, .inl (Y 0, 128, .inl (fun _ => 0))), (q_2, .inl (Y 0, 128, .inl (fun _ => 0))), (q_3, .inl (Y 0, 128, .inl (fun _ => 0))), (q_4, .inl (Y 0, 6, .inl (fun _ => 0))), (q_5, .inl (Y 0, 640, .inl (fun _ => 0))), (q_6, .inl (Y 0, 640, .inl (fun _ => 0)))]) ?_ rfl rfl rfl rfl
  refine V_putF (C := RX5) (T := TX5) (N := 7) (ci := 4) (v := .ref q_6) (ty := tyX5 5) (ws' := [(lw, .inr (4, [.ref q_1, .ref q_2, .ref q_3, .ref q_4, .ref q_5, .ref q_6, .int (0 : Int32)])), (q_1, .inl (Y 0, 128, .inl (fun _ => 0))), (q_2, .inl (Y 0, 128, .inl (fun _ => 0))), (q_3, .inl (Y 0, 128, .inl (fun _ => 0))), (q_4, .inl (Y 0, 6, .inl (fun _ => 0))), (q_5, .inl (Y 0, 640, .inl (fun _ => 0))), (q_6, .inl (Y 0, 640, .inl (fun _ => 0)))]) X in_X5_init_X5 0 rfl rfl 5 (by decide) (List.mem_of_getElem? (i := 10) rfl) rfl tyX5 tyX5_ok nmX5 rfl hn rfl (tyX5_ok 5 (by decide)) rfl rfl (Nat.le_of_ble_eq_true rfl) rfl dX5_init_54 ?_
  refine V_widen (k' := 6) (n' := 1670) (Nat.le_of_ble_eq_true rfl) (Nat.le_of_ble_eq_true rfl) ?_
  exact V_vret X hr dX5_init_57 (⟨q_1, q_2, q_3, q_4, q_5, q_6, rfl, rfl⟩)

theorem in_X6_init_X6 : ∀ w ∈ wsX60, w ∈ wsX6_init := fun w h => List.mem_cons_of_mem _ (List.mem_append_right _ h)
set_option maxHeartbeats 4000000 in
set_option maxRecDepth 100000 in
theorem c_X6_init (l : Launch) (D : va_G) (Y : Nat → ClassId) (s1 : Nat) : Mg l yX6_init wsX6_init ({ frames := 1, cells := 1, slots := 60, locals := 24 }) D Y [(s1, .inr (5, [.null, .int (0 : Int32), .int (0 : Int32), .int (0 : Int32), .int (0 : Int32)]))] [.ref s1] 1 60 (fun vv__ ww__ => (∃ (c : Nat), vv__ = none ∧ ww__ = [(s1, .inr (5, [.ref c, .int (0 : Int32), .int (0 : Int32), .int (0 : Int32), .int (0 : Int32)])), (c, .inl (Y 1, 60, .inr (.inl (fun _ => 0))))])) := by
  refine Mg_of (cc := cX6_init) (maxL := 1) (ret := none) (ls0 := [(0, .ref s1)]) RX6 (by decide) rfl rfl rfl (Nat.le_of_ble_eq_true rfl) (fun p__ e__ s__ m__ b__ t__ c__ X hr hn => ?_)
  refine V_aload_n X 0 rfl dX6_init_0 ?_
  refine V_objInit X (List.mem_of_getElem? (i := 1) rfl) (List.mem_of_getElem? (i := 2) rfl) (List.mem_of_getElem? (i := 3) rfl) (Nat.le_of_ble_eq_true rfl) (Nat.le_of_ble_eq_true rfl) dX6_init_1 ?_
  refine V_aload_n X 0 rfl dX6_init_4 ?_
  refine V_bipush (v := (60 : Int32)) X (by decide) dX6_init_5 ?_
  refine V_newaJ X (N := 60) (show (60 : Int32).toInt = ((60 : Nat) : Int) from (show (60 : Int32).toInt = 60 from by decide)) (List.mem_of_getElem? (i := 4) rfl) (Nat.le_of_ble_eq_true rfl) (Nat.le_of_ble_eq_true rfl) (Nat.le_of_ble_eq_true rfl) dX6_init_7 (fun q_1 => ?_)
  refine V_to (ws' := [(s1, .inr (5, [.null, .int (0 : Int32), .int (0 : Int32), .int (0 : Int32), .int (0 : Int32)])), (q_1, .inl (Y 1, 60, .inr (.inl (fun _ => 0))))]) ?_ rfl rfl rfl rfl
  refine V_putF (C := RX6) (T := TX6) (N := 5) (ci := 5) (v := .ref q_1) (ty := tyX6 0) (ws' := [(s1, .inr (5, [.ref q_1, .int (0 : Int32), .int (0 : Int32), .int (0 : Int32), .int (0 : Int32)])), (q_1, .inl (Y 1, 60, .inr (.inl (fun _ => 0))))]) X in_X6_init_X6 0 rfl rfl 0 (by decide) (List.mem_of_getElem? (i := 5) rfl) rfl tyX6 tyX6_ok nmX6 rfl hn rfl (tyX6_ok 0 (by decide)) rfl rfl (Nat.le_of_ble_eq_true rfl) rfl dX6_init_9 ?_
  refine V_aload_n X 0 rfl dX6_init_12 ?_
  refine V_iconst (v := (0 : Int32)) X (by decide) dX6_init_13 ?_
  refine V_put (C := RX6) (T := TX6) (N := 5) (ci := 5) (v := .int (0 : Int32)) (ty := tyX6 1) (ws' := [(s1, .inr (5, [.ref q_1, .int (0 : Int32), .int (0 : Int32), .int (0 : Int32), .int (0 : Int32)])), (q_1, .inl (Y 1, 60, .inr (.inl (fun _ => 0))))]) X in_X6_init_X6 0 rfl rfl 1 (by decide) (List.mem_of_getElem? (i := 6) rfl) rfl tyX6 tyX6_ok nmX6 rfl (tyX6_ok 1 (by decide)) rfl rfl (Nat.le_of_ble_eq_true rfl) rfl dX6_init_14 ?_
  refine V_widen (k' := 1) (n' := 60) (Nat.le_of_ble_eq_true rfl) (Nat.le_of_ble_eq_true rfl) ?_
  exact V_vret X hr dX6_init_17 (⟨q_1, rfl, rfl⟩)

theorem in_X3_init_X3 : ∀ w ∈ wsX30, w ∈ wsX3_init := fun w h => List.mem_cons_of_mem _ (List.mem_append_right _ h)
set_option maxHeartbeats 4000000 in
set_option maxRecDepth 100000 in
theorem c_X3_init (l : Launch) (D : va_G) (Y : Nat → ClassId) (ch : Nat) (lw : Nat) : Mg l yX3_init wsX3_init ({ frames := 1, cells := 1, slots := 4, locals := 24 }) D Y [(ch, .inr (2, [.null, .null, .int (0 : Int32)]))] [.ref ch, .ref lw] 1 4 (fun vv__ ww__ => (∃ (cs : Nat), vv__ = none ∧ ww__ = [(ch, .inr (2, [.ref cs, .ref lw, .int (0 : Int32)])), (cs, .inl (Y 0, 4, .inl (upd (upd (upd (upd (fun _ => 0) 0 (5 : Int32)) 1 (5 : Int32)) 2 (5 : Int32)) 3 (5 : Int32))))])) := by
  refine Mg_of (cc := cX3_init) (maxL := 2) (ret := none) (ls0 := [(0, .ref ch), (1, .ref lw)]) RX3 (by decide) rfl rfl rfl (Nat.le_of_ble_eq_true rfl) (fun p__ e__ s__ m__ b__ t__ c__ X hr hn => ?_)
  refine V_aload_n X 0 rfl dX3_init_0 ?_
  refine V_objInit X (List.mem_of_getElem? (i := 1) rfl) (List.mem_of_getElem? (i := 2) rfl) (List.mem_of_getElem? (i := 3) rfl) (Nat.le_of_ble_eq_true rfl) (Nat.le_of_ble_eq_true rfl) dX3_init_1 ?_
  refine V_aload_n X 0 rfl dX3_init_4 ?_
  refine V_iconst (v := (4 : Int32)) X (by decide) dX3_init_5 ?_
  refine V_newaI X (N := 4) (show (4 : Int32).toInt = ((4 : Nat) : Int) from (show (4 : Int32).toInt = 4 from by decide)) (List.mem_of_getElem? (i := 4) rfl) (Nat.le_of_ble_eq_true rfl) (Nat.le_of_ble_eq_true rfl) (Nat.le_of_ble_eq_true rfl) dX3_init_6 (fun q_1 => ?_)
  refine V_to (ws' := [(ch, .inr (2, [.null, .null, .int (0 : Int32)])), (q_1, .inl (Y 0, 4, .inl (fun _ => 0)))]) ?_ rfl rfl rfl rfl
  refine V_dup X rfl dX3_init_8 ?_
  refine V_iconst (v := (0 : Int32)) X (by decide) dX3_init_9 ?_
  refine V_iconst (v := (5 : Int32)) X (by decide) dX3_init_10 ?_
  refine V_iast (ws' := [(ch, .inr (2, [.null, .null, .int (0 : Int32)])), (q_1, .inl (Y 0, 4, .inl (upd (fun _ => 0) 0 (5 : Int32))))]) X 1 0 rfl (show (0 : Int32).toInt = ((0 : Nat) : Int) from (show (0 : Int32).toInt = 0 from by decide)) (by omega) rfl dX3_init_11 ?_
  refine V_dup X rfl dX3_init_12 ?_
  refine V_iconst (v := (1 : Int32)) X (by decide) dX3_init_13 ?_
  refine V_iconst (v := (5 : Int32)) X (by decide) dX3_init_14 ?_
  refine V_iast (ws' := [(ch, .inr (2, [.null, .null, .int (0 : Int32)])), (q_1, .inl (Y 0, 4, .inl (upd (upd (fun _ => 0) 0 (5 : Int32)) 1 (5 : Int32))))]) X 1 1 rfl (show (1 : Int32).toInt = ((1 : Nat) : Int) from (show (1 : Int32).toInt = 1 from by decide)) (by omega) rfl dX3_init_15 ?_
  refine V_dup X rfl dX3_init_16 ?_
  refine V_iconst (v := (2 : Int32)) X (by decide) dX3_init_17 ?_
  refine V_iconst (v := (5 : Int32)) X (by decide) dX3_init_18 ?_
  refine V_iast (ws' := [(ch, .inr (2, [.null, .null, .int (0 : Int32)])), (q_1, .inl (Y 0, 4, .inl (upd (upd (upd (fun _ => 0) 0 (5 : Int32)) 1 (5 : Int32)) 2 (5 : Int32))))]) X 1 2 rfl (show (2 : Int32).toInt = ((2 : Nat) : Int) from (show (2 : Int32).toInt = 2 from by decide)) (by omega) rfl dX3_init_19 ?_
  refine V_dup X rfl dX3_init_20 ?_
  refine V_iconst (v := (3 : Int32)) X (by decide) dX3_init_21 ?_
  refine V_iconst (v := (5 : Int32)) X (by decide) dX3_init_22 ?_
  refine V_iast (ws' := [(ch, .inr (2, [.null, .null, .int (0 : Int32)])), (q_1, .inl (Y 0, 4, .inl (upd (upd (upd (upd (fun _ => 0) 0 (5 : Int32)) 1 (5 : Int32)) 2 (5 : Int32)) 3 (5 : Int32))))]) X 1 3 rfl (show (3 : Int32).toInt = ((3 : Nat) : Int) from (show (3 : Int32).toInt = 3 from by decide)) (by omega) rfl dX3_init_23 ?_
  refine V_putF (C := RX3) (T := TX3) (N := 3) (ci := 2) (v := .ref q_1) (ty := tyX3 0) (ws' := [(ch, .inr (2, [.ref q_1, .null, .int (0 : Int32)])), (q_1, .inl (Y 0, 4, .inl (upd (upd (upd (upd (fun _ => 0) 0 (5 : Int32)) 1 (5 : Int32)) 2 (5 : Int32)) 3 (5 : Int32))))]) X in_X3_init_X3 0 rfl rfl 0 (by decide) (List.mem_of_getElem? (i := 5) rfl) rfl tyX3 tyX3_ok nmX3 rfl hn rfl (tyX3_ok 0 (by decide)) rfl rfl (Nat.le_of_ble_eq_true rfl) rfl dX3_init_24 ?_
  refine V_aload_n X 0 rfl dX3_init_27 ?_
  refine V_aload_n X 1 rfl dX3_init_28 ?_
  refine V_put (C := RX3) (T := TX3) (N := 3) (ci := 2) (v := .ref lw) (ty := tyX3 1) (ws' := [(ch, .inr (2, [.ref q_1, .ref lw, .int (0 : Int32)])), (q_1, .inl (Y 0, 4, .inl (upd (upd (upd (upd (fun _ => 0) 0 (5 : Int32)) 1 (5 : Int32)) 2 (5 : Int32)) 3 (5 : Int32))))]) X in_X3_init_X3 0 rfl rfl 1 (by decide) (List.mem_of_getElem? (i := 6) rfl) rfl tyX3 tyX3_ok nmX3 rfl (tyX3_ok 1 (by decide)) rfl rfl (Nat.le_of_ble_eq_true rfl) rfl dX3_init_29 ?_
  refine V_widen (k' := 1) (n' := 4) (Nat.le_of_ble_eq_true rfl) (Nat.le_of_ble_eq_true rfl) ?_
  exact V_vret X hr dX3_init_32 (⟨q_1, rfl, rfl⟩)

theorem in_X7_init_X7 : ∀ w ∈ wsX70, w ∈ wsX7_init := fun w h => List.mem_cons_of_mem _ (List.mem_append_right _ h)
set_option maxHeartbeats 4000000 in
set_option maxRecDepth 100000 in
theorem c_X7_init (l : Launch) (D : va_G) (Y : Nat → ClassId) (g : Nat) (so : Nat) : Mg l yX7_init wsX7_init ({ frames := 1, cells := 3, slots := 132, locals := 24 }) D Y [(g, .inr (6, [.null, .null, .null, .null, .int (0 : Int32), .int (0 : Int32), .int (0 : Int32), .int (0 : Int32)]))] [.ref g, .ref so] 3 132 (fun vv__ ww__ => (∃ (gl : Nat), ∃ (gb : Nat), ∃ (gt : Nat), vv__ = none ∧ ww__ = [(g, .inr (6, [.ref gl, .ref gb, .ref gt, .ref so, .int (0 : Int32), .int (0 : Int32), .int (0 : Int32), .int (0 : Int32)])), (gl, .inl (Y 0, 60, .inl (fun _ => 0))), (gb, .inl (Y 0, 60, .inl (fun _ => 0))), (gt, .inl (Y 0, 12, .inl (fun _ => 0)))])) := by
  refine Mg_of (cc := cX7_init) (maxL := 2) (ret := none) (ls0 := [(0, .ref g), (1, .ref so)]) RX7 (by decide) rfl rfl rfl (Nat.le_of_ble_eq_true rfl) (fun p__ e__ s__ m__ b__ t__ c__ X hr hn => ?_)
  refine V_aload_n X 0 rfl dX7_init_0 ?_
  refine V_objInit X (List.mem_of_getElem? (i := 1) rfl) (List.mem_of_getElem? (i := 2) rfl) (List.mem_of_getElem? (i := 3) rfl) (Nat.le_of_ble_eq_true rfl) (Nat.le_of_ble_eq_true rfl) dX7_init_1 ?_
  refine V_aload_n X 0 rfl dX7_init_4 ?_
  refine V_bipush (v := (60 : Int32)) X (by decide) dX7_init_5 ?_
  refine V_newaI X (N := 60) (show (60 : Int32).toInt = ((60 : Nat) : Int) from (show (60 : Int32).toInt = 60 from by decide)) (List.mem_of_getElem? (i := 4) rfl) (Nat.le_of_ble_eq_true rfl) (Nat.le_of_ble_eq_true rfl) (Nat.le_of_ble_eq_true rfl) dX7_init_7 (fun q_1 => ?_)
  refine V_to (ws' := [(g, .inr (6, [.null, .null, .null, .null, .int (0 : Int32), .int (0 : Int32), .int (0 : Int32), .int (0 : Int32)])), (q_1, .inl (Y 0, 60, .inl (fun _ => 0)))]) ?_ rfl rfl rfl rfl
  refine V_putF (C := RX7) (T := TX7) (N := 8) (ci := 6) (v := .ref q_1) (ty := tyX7 0) (ws' := [(g, .inr (6, [.ref q_1, .null, .null, .null, .int (0 : Int32), .int (0 : Int32), .int (0 : Int32), .int (0 : Int32)])), (q_1, .inl (Y 0, 60, .inl (fun _ => 0)))]) X in_X7_init_X7 0 rfl rfl 0 (by decide) (List.mem_of_getElem? (i := 5) rfl) rfl tyX7 tyX7_ok nmX7 rfl hn rfl (tyX7_ok 0 (by decide)) rfl rfl (Nat.le_of_ble_eq_true rfl) rfl dX7_init_9 ?_
  refine V_aload_n X 0 rfl dX7_init_12 ?_
  refine V_bipush (v := (60 : Int32)) X (by decide) dX7_init_13 ?_
  refine V_newaI X (N := 60) (show (60 : Int32).toInt = ((60 : Nat) : Int) from (show (60 : Int32).toInt = 60 from by decide)) (List.mem_of_getElem? (i := 4) rfl) (Nat.le_of_ble_eq_true rfl) (Nat.le_of_ble_eq_true rfl) (Nat.le_of_ble_eq_true rfl) dX7_init_15 (fun q_2 => ?_)
  refine V_to (ws' := [(g, .inr (6, [.ref q_1, .null, .null, .null, .int (0 : Int32), .int (0 : Int32), .int (0 : Int32), .int (0 : Int32)])), (q_1, .inl (Y 0, 60, .inl (fun _ => 0))), (q_2, .inl (Y 0, 60, .inl (fun _ => 0)))]) ?_ rfl rfl rfl rfl
  refine V_putF (C := RX7) (T := TX7) (N := 8) (ci := 6) (v := .ref q_2) (ty := tyX7 1) (ws' := [(g, .inr (6, [.ref q_1, .ref q_2, .null, .null, .int (0 : Int32), .int (0 : Int32), .int (0 : Int32), .int (0 : Int32)])), (q_1, .inl (Y 0, 60, .inl (fun _ => 0))), (q_2, .inl (Y 0, 60, .inl (fun _ => 0)))]) X in_X7_init_X7 0 rfl rfl 1 (by decide) (List.mem_of_getElem? (i := 6) rfl) rfl tyX7 tyX7_ok nmX7 rfl hn rfl (tyX7_ok 1 (by decide)) rfl rfl (Nat.le_of_ble_eq_true rfl) rfl dX7_init_17 ?_
  refine V_aload_n X 0 rfl dX7_init_20 ?_
  refine V_bipush (v := (12 : Int32)) X (by decide) dX7_init_21 ?_
  refine V_newaI X (N := 12) (show (12 : Int32).toInt = ((12 : Nat) : Int) from (show (12 : Int32).toInt = 12 from by decide)) (List.mem_of_getElem? (i := 4) rfl) (Nat.le_of_ble_eq_true rfl) (Nat.le_of_ble_eq_true rfl) (Nat.le_of_ble_eq_true rfl) dX7_init_23 (fun q_3 => ?_)
  refine V_to (ws' := [(g, .inr (6, [.ref q_1, .ref q_2, .null, .null, .int (0 : Int32), .int (0 : Int32), .int (0 : Int32), .int (0 : Int32)])), (q_1, .inl (Y 0, 60, .inl (fun _ => 0))), (q_2, .inl (Y 0, 60, .inl (fun _ => 0))), (q_3, .inl (Y 0, 12, .inl (fun _ => 0)))]) ?_ rfl rfl rfl rfl
  refine V_putF (C := RX7) (T := TX7) (N := 8) (ci := 6) (v := .ref q_3) (ty := tyX7 2) (ws' := [(g, .inr (6, [.ref q_1, .ref q_2, .ref q_3, .null, .int (0 : Int32), .int (0 : Int32), .int (0 : Int32), .int (0 : Int32)])), (q_1, .inl (Y 0, 60, .inl (fun _ => 0))), (q_2, .inl (Y 0, 60, .inl (fun _ => 0))), (q_3, .inl (Y 0, 12, .inl (fun _ => 0)))]) X in_X7_init_X7 0 rfl rfl 2 (by decide) (List.mem_of_getElem? (i := 7) rfl) rfl tyX7 tyX7_ok nmX7 rfl hn rfl (tyX7_ok 2 (by decide)) rfl rfl (Nat.le_of_ble_eq_true rfl) rfl dX7_init_25 ?_
  refine V_aload_n X 0 rfl dX7_init_28 ?_
  refine V_iconst (v := (0 : Int32)) X (by decide) dX7_init_29 ?_
  refine V_put (C := RX7) (T := TX7) (N := 8) (ci := 6) (v := .int (0 : Int32)) (ty := tyX7 6) (ws' := [(g, .inr (6, [.ref q_1, .ref q_2, .ref q_3, .null, .int (0 : Int32), .int (0 : Int32), .int (0 : Int32), .int (0 : Int32)])), (q_1, .inl (Y 0, 60, .inl (fun _ => 0))), (q_2, .inl (Y 0, 60, .inl (fun _ => 0))), (q_3, .inl (Y 0, 12, .inl (fun _ => 0)))]) X in_X7_init_X7 0 rfl rfl 6 (by decide) (List.mem_of_getElem? (i := 8) rfl) rfl tyX7 tyX7_ok nmX7 rfl (tyX7_ok 6 (by decide)) rfl rfl (Nat.le_of_ble_eq_true rfl) rfl dX7_init_30 ?_
  refine V_aload_n X 0 rfl dX7_init_33 ?_
  refine V_aload_n X 1 rfl dX7_init_34 ?_
  refine V_put (C := RX7) (T := TX7) (N := 8) (ci := 6) (v := .ref so) (ty := tyX7 3) (ws' := [(g, .inr (6, [.ref q_1, .ref q_2, .ref q_3, .ref so, .int (0 : Int32), .int (0 : Int32), .int (0 : Int32), .int (0 : Int32)])), (q_1, .inl (Y 0, 60, .inl (fun _ => 0))), (q_2, .inl (Y 0, 60, .inl (fun _ => 0))), (q_3, .inl (Y 0, 12, .inl (fun _ => 0)))]) X in_X7_init_X7 0 rfl rfl 3 (by decide) (List.mem_of_getElem? (i := 9) rfl) rfl tyX7 tyX7_ok nmX7 rfl (tyX7_ok 3 (by decide)) rfl rfl (Nat.le_of_ble_eq_true rfl) rfl dX7_init_35 ?_
  refine V_widen (k' := 3) (n' := 132) (Nat.le_of_ble_eq_true rfl) (Nat.le_of_ble_eq_true rfl) ?_
  exact V_vret X hr dX7_init_38 (⟨q_1, q_2, q_3, rfl, rfl⟩)

theorem in_X9_init_X9 : ∀ w ∈ wsX90, w ∈ wsX9_init := fun w h => List.mem_cons_of_mem _ (List.mem_append_right _ h)
set_option maxHeartbeats 4000000 in
set_option maxRecDepth 100000 in
theorem c_X9_init (l : Launch) (D : va_G) (Y : Nat → ClassId) (tp : Nat) (lw : Nat) : Mg l yX9_init wsX9_init ({ frames := 1, cells := 1, slots := 120, locals := 24 }) D Y [(tp, .inr (8, [.null, .int (0 : Int32), .null, .int (0 : Int32), .int (0 : Int32)]))] [.ref tp, .ref lw] 1 120 (fun vv__ ww__ => (∃ (tb : Nat), vv__ = none ∧ ww__ = [(tp, .inr (8, [.ref tb, .int (0 : Int32), .ref lw, .int (0 : Int32), .int (0 : Int32)])), (tb, .inl (Y 0, 120, .inl (fun _ => 0)))])) := by
  refine Mg_of (cc := cX9_init) (maxL := 2) (ret := none) (ls0 := [(0, .ref tp), (1, .ref lw)]) RX9 (by decide) rfl rfl rfl (Nat.le_of_ble_eq_true rfl) (fun p__ e__ s__ m__ b__ t__ c__ X hr hn => ?_)
  refine V_aload_n X 0 rfl dX9_init_0 ?_
  refine V_objInit X (List.mem_of_getElem? (i := 1) rfl) (List.mem_of_getElem? (i := 2) rfl) (List.mem_of_getElem? (i := 3) rfl) (Nat.le_of_ble_eq_true rfl) (Nat.le_of_ble_eq_true rfl) dX9_init_1 ?_
  refine V_aload_n X 0 rfl dX9_init_4 ?_
  refine V_bipush (v := (120 : Int32)) X (by decide) dX9_init_5 ?_
  refine V_newaI X (N := 120) (show (120 : Int32).toInt = ((120 : Nat) : Int) from (show (120 : Int32).toInt = 120 from by decide)) (List.mem_of_getElem? (i := 4) rfl) (Nat.le_of_ble_eq_true rfl) (Nat.le_of_ble_eq_true rfl) (Nat.le_of_ble_eq_true rfl) dX9_init_7 (fun q_1 => ?_)
  refine V_to (ws' := [(tp, .inr (8, [.null, .int (0 : Int32), .null, .int (0 : Int32), .int (0 : Int32)])), (q_1, .inl (Y 0, 120, .inl (fun _ => 0)))]) ?_ rfl rfl rfl rfl
  refine V_putF (C := RX9) (T := TX9) (N := 5) (ci := 8) (v := .ref q_1) (ty := tyX9 0) (ws' := [(tp, .inr (8, [.ref q_1, .int (0 : Int32), .null, .int (0 : Int32), .int (0 : Int32)])), (q_1, .inl (Y 0, 120, .inl (fun _ => 0)))]) X in_X9_init_X9 0 rfl rfl 0 (by decide) (List.mem_of_getElem? (i := 5) rfl) rfl tyX9 tyX9_ok nmX9 rfl hn rfl (tyX9_ok 0 (by decide)) rfl rfl (Nat.le_of_ble_eq_true rfl) rfl dX9_init_9 ?_
  refine V_aload_n X 0 rfl dX9_init_12 ?_
  refine V_aload_n X 1 rfl dX9_init_13 ?_
  refine V_put (C := RX9) (T := TX9) (N := 5) (ci := 8) (v := .ref lw) (ty := tyX9 2) (ws' := [(tp, .inr (8, [.ref q_1, .int (0 : Int32), .ref lw, .int (0 : Int32), .int (0 : Int32)])), (q_1, .inl (Y 0, 120, .inl (fun _ => 0)))]) X in_X9_init_X9 0 rfl rfl 2 (by decide) (List.mem_of_getElem? (i := 6) rfl) rfl tyX9 tyX9_ok nmX9 rfl (tyX9_ok 2 (by decide)) rfl rfl (Nat.le_of_ble_eq_true rfl) rfl dX9_init_14 ?_
  refine V_widen (k' := 1) (n' := 120) (Nat.le_of_ble_eq_true rfl) (Nat.le_of_ble_eq_true rfl) ?_
  exact V_vret X hr dX9_init_17 (⟨q_1, rfl, rfl⟩)

theorem in_X4_init_X4 : ∀ w ∈ wsX40, w ∈ wsX4_init := fun w h => List.mem_cons_of_mem _ (List.mem_append_right _ h)
theorem in_X4_init_X7 : ∀ w ∈ wsX70, w ∈ wsX4_init := fun w h => List.mem_cons_of_mem _ (List.mem_append_left _ (List.mem_append_right _ h))
set_option maxHeartbeats 4000000 in
set_option maxRecDepth 100000 in
theorem c_X4_init (l : Launch) (D : va_G) (Y : Nat → ClassId) (d : Nat) (so : Nat) : Mg l yX4_init wsX4_init ({ frames := 2, cells := 4, slots := 140, locals := 45 }) D Y [(d, .inr (3, [.null, .int (0 : Int32), .int (0 : Int32), .int (0 : Int32), .int (0 : Int32)]))] [.ref d, .ref so] 4 140 (fun vv__ ww__ => (∃ (g : Nat), ∃ (gl : Nat), ∃ (gb : Nat), ∃ (gt : Nat), vv__ = none ∧ ww__ = [(d, .inr (3, [.ref g, .int (0 : Int32), .int (0 : Int32), .int (0 : Int32), .int (0 : Int32)])), (g, .inr (6, [.ref gl, .ref gb, .ref gt, .ref so, .int (0 : Int32), .int (0 : Int32), .int (0 : Int32), .int (0 : Int32)])), (gl, .inl (Y 0, 60, .inl (fun _ => 0))), (gb, .inl (Y 0, 60, .inl (fun _ => 0))), (gt, .inl (Y 0, 12, .inl (fun _ => 0)))])) := by
  refine Mg_of (cc := cX4_init) (maxL := 2) (ret := none) (ls0 := [(0, .ref d), (1, .ref so)]) RX4 (by decide) rfl rfl rfl (Nat.le_of_ble_eq_true rfl) (fun p__ e__ s__ m__ b__ t__ c__ X hr hn => ?_)
  refine V_aload_n X 0 rfl dX4_init_0 ?_
  refine V_objInit X (List.mem_of_getElem? (i := 1) rfl) (List.mem_of_getElem? (i := 2) rfl) (List.mem_of_getElem? (i := 3) rfl) (Nat.le_of_ble_eq_true rfl) (Nat.le_of_ble_eq_true rfl) dX4_init_1 ?_
  refine V_aload_n X 0 rfl dX4_init_4 ?_
  refine V_new (C := RX7) (T := TX7) (N := 8) (ci := 6) (fs := [.null, .null, .null, .null, .int (0 : Int32), .int (0 : Int32), .int (0 : Int32), .int (0 : Int32)]) X in_X4_init_X7 tyX7 tyX7_ok (List.mem_of_getElem? (i := 4) rfl) (List.mem_of_getElem? (i := 5) rfl) (List.mem_of_getElem? (i := 6) rfl) rfl dfX7 (Nat.le_of_ble_eq_true rfl) (Nat.le_of_ble_eq_true rfl) dX4_init_5 (fun q_1 => ?_)
  refine V_to (ws' := [(d, .inr (3, [.null, .int (0 : Int32), .int (0 : Int32), .int (0 : Int32), .int (0 : Int32)])), (q_1, .inr (6, [.null, .null, .null, .null, .int (0 : Int32), .int (0 : Int32), .int (0 : Int32), .int (0 : Int32)]))]) ?_ rfl rfl rfl rfl
  refine V_dup X rfl dX4_init_8 ?_
  refine V_aload_n X 1 rfl dX4_init_9 ?_
  refine V_callI (wr := [(d, .inr (3, [.null, .int (0 : Int32), .int (0 : Int32), .int (0 : Int32), .int (0 : Int32)]))]) (st := [.ref q_1, .ref d]) X (c_X7_init l D Y q_1 so) 1 ggX4_init_X7_init rfl (List.mem_of_getElem? (i := 6) rfl) (List.mem_of_getElem? (i := 8) rfl) (List.mem_of_getElem? (i := 9) rfl) rfl (by decide +kernel) ⟨rfl, rfl⟩ ⟨Nat.le_of_ble_eq_true rfl, Nat.le_of_ble_eq_true rfl⟩ [1] [0] rfl rfl rfl rfl (by decide) rfl rfl (Nat.le_of_ble_eq_true rfl) ⟨Nat.le_of_ble_eq_true rfl, Nat.le_of_ble_eq_true rfl⟩ dX4_init_10 (fun v_10 w_10 h_10 => ?_)
  obtain ⟨gl_3, gb_4, gt_5, rfl, rfl⟩ := h_10
  refine V_to (pc' := 13) (ls' := [(0, .ref d), (1, .ref so)]) (st' := [.ref q_1, .ref d]) (ws' := [(d, .inr (3, [.null, .int (0 : Int32), .int (0 : Int32), .int (0 : Int32), .int (0 : Int32)])), (q_1, .inr (6, [.ref gl_3, .ref gb_4, .ref gt_5, .ref so, .int (0 : Int32), .int (0 : Int32), .int (0 : Int32), .int (0 : Int32)])), (gl_3, .inl (Y 0, 60, .inl (fun _ => 0))), (gb_4, .inl (Y 0, 60, .inl (fun _ => 0))), (gt_5, .inl (Y 0, 12, .inl (fun _ => 0)))]) ?_ rfl rfl rfl rfl
  refine V_putF (C := RX4) (T := TX4) (N := 5) (ci := 3) (v := .ref q_1) (ty := tyX4 0) (ws' := [(d, .inr (3, [.ref q_1, .int (0 : Int32), .int (0 : Int32), .int (0 : Int32), .int (0 : Int32)])), (q_1, .inr (6, [.ref gl_3, .ref gb_4, .ref gt_5, .ref so, .int (0 : Int32), .int (0 : Int32), .int (0 : Int32), .int (0 : Int32)])), (gl_3, .inl (Y 0, 60, .inl (fun _ => 0))), (gb_4, .inl (Y 0, 60, .inl (fun _ => 0))), (gt_5, .inl (Y 0, 12, .inl (fun _ => 0)))]) X in_X4_init_X4 0 rfl rfl 0 (by decide) (List.mem_of_getElem? (i := 7) rfl) rfl tyX4 tyX4_ok nmX4 rfl hn rfl (tyX4_ok 0 (by decide)) rfl rfl (Nat.le_of_ble_eq_true rfl) rfl dX4_init_13 ?_
  refine V_widen (k' := 4) (n' := 140) (Nat.le_of_ble_eq_true rfl) (Nat.le_of_ble_eq_true rfl) ?_
  exact V_vret X hr dX4_init_16 (⟨q_1, gl_3, gb_4, gt_5, rfl, rfl⟩)

set_option maxHeartbeats 4000000 in
set_option maxRecDepth 100000 in
theorem c_J0_coder_7d493 (l : Launch) (D : va_G) (Y : Nat → ClassId) : Mg l yJ0_coder_7d493 wsJ0_coder_7d493 ({ frames := 0, cells := 0, slots := 0, locals := 0 }) D Y [] [.ref (Y 8)] 0 0 (fun vv__ ww__ => (vv__ = some (.int (0 : Int32)) ∧ ww__ = [])) := by
  refine Mg_of (cc := cJ0_coder_7d493) (maxL := 1) (ret := (some .byte)) (ls0 := [(0, .ref (Y 8))]) RJ0 (by decide) rfl rfl rfl (Nat.le_of_ble_eq_true rfl) (fun p__ e__ s__ m__ b__ t__ c__ X hr hn => ?_)
  refine V_getsC X (List.mem_of_getElem? (i := 1) rfl) dJ0_coder_7d493_0 ?_
  refine V_if_eq X (show (1 : Int32).toInt = 1 from by decide) 13 dJ0_coder_7d493_3 (by decide) (fun c_3 => absurd c_3 (by decide)) (fun _ => ?_)
  refine V_aload_n X 0 rfl dJ0_coder_7d493_6 ?_
  refine V_scod X (List.mem_of_getElem? (i := 2) rfl) dJ0_coder_7d493_7 ?_
  refine V_goto X 14 (by decide) dJ0_coder_7d493_10 ?_
  exact V_zret X hr rfl dJ0_coder_7d493_14 (⟨rfl, rfl⟩)

set_option maxHeartbeats 4000000 in
set_option maxRecDepth 100000 in
theorem c_J0_isLatin1_aae02 (l : Launch) (D : va_G) (Y : Nat → ClassId) : Mg l yJ0_isLatin1_aae02 wsJ0_isLatin1_aae02 ({ frames := 0, cells := 0, slots := 0, locals := 0 }) D Y [] [.ref (Y 8)] 0 0 (fun vv__ ww__ => (vv__ = some (.int (1 : Int32)) ∧ ww__ = [])) := by
  refine Mg_of (cc := cJ0_isLatin1_aae02) (maxL := 1) (ret := (some .boolean)) (ls0 := [(0, .ref (Y 8))]) RJ0 (by decide) rfl rfl rfl (Nat.le_of_ble_eq_true rfl) (fun p__ e__ s__ m__ b__ t__ c__ X hr hn => ?_)
  refine V_getsC X (List.mem_of_getElem? (i := 1) rfl) dJ0_isLatin1_aae02_0 ?_
  refine V_if_eq X (show (1 : Int32).toInt = 1 from by decide) 17 dJ0_isLatin1_aae02_3 (by decide) (fun c_3 => absurd c_3 (by decide)) (fun _ => ?_)
  refine V_aload_n X 0 rfl dJ0_isLatin1_aae02_6 ?_
  refine V_scod X (List.mem_of_getElem? (i := 2) rfl) dJ0_isLatin1_aae02_7 ?_
  refine V_if_ne X (show (0 : Int32).toInt = 0 from by decide) 17 dJ0_isLatin1_aae02_10 (by decide) (fun c_10 => absurd c_10 (by decide)) (fun _ => ?_)
  refine V_iconst (v := (1 : Int32)) X (by decide) dJ0_isLatin1_aae02_13 ?_
  refine V_goto X 18 (by decide) dJ0_isLatin1_aae02_14 ?_
  exact V_zret X hr rfl dJ0_isLatin1_aae02_18 (⟨rfl, rfl⟩)

set_option maxHeartbeats 4000000 in
set_option maxRecDepth 100000 in
theorem c_J0_length_8abf5 (l : Launch) (D : va_G) (Y : Nat → ClassId) : Mg l yJ0_length_8abf5 wsJ0_length_8abf5 ({ frames := 1, cells := 0, slots := 0, locals := 20 }) D Y [] [.ref (Y 8)] 0 0 (fun vv__ ww__ => (vv__ = some (.int (15 : Int32)) ∧ ww__ = [])) := by
  refine Mg_of (cc := cJ0_length_8abf5) (maxL := 1) (ret := (some .int)) (ls0 := [(0, .ref (Y 8))]) RJ0 (by decide) rfl rfl rfl (Nat.le_of_ble_eq_true rfl) (fun p__ e__ s__ m__ b__ t__ c__ X hr hn => ?_)
  refine V_aload_n X 0 rfl dJ0_length_8abf5_0 ?_
  refine V_sval X (List.mem_of_getElem? (i := 1) rfl) dJ0_length_8abf5_1 ?_
  refine V_slen X dJ0_length_8abf5_4 ?_
  refine V_aload_n X 0 rfl dJ0_length_8abf5_5 ?_
  refine V_callVO (wc := []) (wr := []) (st := [.int (15 : Int32)]) X (c_J0_coder_7d493 l D Y ) 0 gJ0_length_8abf5_J0_coder_7d493 rfl (by decide +kernel) ⟨rfl, rfl⟩ ⟨Nat.le_of_ble_eq_true rfl, Nat.le_of_ble_eq_true rfl⟩ [] [] rfl rfl rfl rfl (by decide) rfl rfl (Nat.le_of_ble_eq_true rfl) ⟨Nat.le_of_ble_eq_true rfl, Nat.le_of_ble_eq_true rfl⟩ dJ0_length_8abf5_6 (fun v_6 w_6 h_6 => ?_)
  obtain ⟨rfl, rfl⟩ := h_6
  refine V_to (pc' := 9) (ls' := [(0, .ref (Y 8))]) (st' := [.int (0 : Int32), .int (15 : Int32)]) (ws' := []) ?_ rfl rfl rfl rfl
  refine V_ishr X dJ0_length_8abf5_9 (fun x_2 ex_2 => ?_)
  obtain rfl : x_2 = (15 : Int32) := ex_2.trans (by decide)
  exact V_iret X hr dJ0_length_8abf5_10 (⟨rfl, rfl⟩)

set_option maxHeartbeats 4000000 in
set_option maxRecDepth 100000 in
theorem c_J3_n (l : Launch) (D : va_G) (Y : Nat → ClassId) (i : Int32) (k : Nat) (ti : i.toInt = ((k : Nat) : Int)) (hk : k < 15) : Mg l yJ3_checkIndex_8e157 wsJ3_checkIndex_8e157 ({ frames := 0, cells := 0, slots := 0, locals := 0 }) D Y [] [.int i, .int (15 : Int32), .null] 0 0 (fun vv__ ww__ => (vv__ = some (.int i) ∧ ww__ = [])) := by
  refine Mg_of (cc := cJ3_checkIndex_8e157) (maxL := 3) (ret := (some .int)) (ls0 := [(0, .int i), (1, .int (15 : Int32)), (2, .null)]) RJ3 (by decide) rfl rfl rfl (Nat.le_of_ble_eq_true rfl) (fun p__ e__ s__ m__ b__ t__ c__ X hr hn => ?_)
  refine V_iload_n X 0 rfl dJ3_checkIndex_8e157_0 ?_
  refine V_if_lt X ti 9 dJ3_checkIndex_8e157_1 (by decide) (fun c_1 => False.elim (by omega)) (fun c_1 => ?_)
  refine V_iload_n X 0 rfl dJ3_checkIndex_8e157_4 ?_
  refine V_iload_n X 1 rfl dJ3_checkIndex_8e157_5 ?_
  refine V_icmp_lt X ti (show (15 : Int32).toInt = 15 from by decide) 16 dJ3_checkIndex_8e157_6 (by decide) (fun c_6 => ?_) (fun c_6 => False.elim (by omega))
  refine V_iload_n X 0 rfl dJ3_checkIndex_8e157_16 ?_
  exact V_iret X hr dJ3_checkIndex_8e157_17 (⟨rfl, rfl⟩)

set_option maxHeartbeats 4000000 in
set_option maxRecDepth 100000 in
theorem c_J3_r (l : Launch) (D : va_G) (Y : Nat → ClassId) (i : Int32) (k : Nat) (t : Nat) (ti : i.toInt = ((k : Nat) : Int)) (hk : k < 15) : Mg l yJ3_checkIndex_8e157 wsJ3_checkIndex_8e157 ({ frames := 0, cells := 0, slots := 0, locals := 0 }) D Y [] [.int i, .int (15 : Int32), .ref t] 0 0 (fun vv__ ww__ => (vv__ = some (.int i) ∧ ww__ = [])) := by
  refine Mg_of (cc := cJ3_checkIndex_8e157) (maxL := 3) (ret := (some .int)) (ls0 := [(0, .int i), (1, .int (15 : Int32)), (2, .ref t)]) RJ3 (by decide) rfl rfl rfl (Nat.le_of_ble_eq_true rfl) (fun p__ e__ s__ m__ b__ t__ c__ X hr hn => ?_)
  refine V_iload_n X 0 rfl dJ3_checkIndex_8e157_0 ?_
  refine V_if_lt X ti 9 dJ3_checkIndex_8e157_1 (by decide) (fun c_1 => False.elim (by omega)) (fun c_1 => ?_)
  refine V_iload_n X 0 rfl dJ3_checkIndex_8e157_4 ?_
  refine V_iload_n X 1 rfl dJ3_checkIndex_8e157_5 ?_
  refine V_icmp_lt X ti (show (15 : Int32).toInt = 15 from by decide) 16 dJ3_checkIndex_8e157_6 (by decide) (fun c_6 => ?_) (fun c_6 => False.elim (by omega))
  refine V_iload_n X 0 rfl dJ3_checkIndex_8e157_16 ?_
  exact V_iret X hr dJ3_checkIndex_8e157_17 (⟨rfl, rfl⟩)

set_option maxHeartbeats 4000000 in
set_option maxRecDepth 100000 in
theorem c_J0_checkIndex_df160 (l : Launch) (D : va_G) (Y : Nat → ClassId) (i : Int32) (k : Nat) (ti : i.toInt = ((k : Nat) : Int)) (hk : k < 15) : Mg l yJ0_checkIndex_df160 wsJ0_checkIndex_df160 ({ frames := 1, cells := 0, slots := 0, locals := 22 }) D Y [] [.int i, .int (15 : Int32)] 0 0 (fun vv__ ww__ => (vv__ = none ∧ ww__ = [])) := by
  refine Mg_of (cc := cJ0_checkIndex_df160) (maxL := 2) (ret := none) (ls0 := [(0, .int i), (1, .int (15 : Int32))]) RJ0 (by decide) rfl rfl rfl (Nat.le_of_ble_eq_true rfl) (fun p__ e__ s__ m__ b__ t__ c__ X hr hn => ?_)
  refine V_iload_n X 0 rfl dJ0_checkIndex_df160_0 ?_
  refine V_iload_n X 1 rfl dJ0_checkIndex_df160_1 ?_
  refine V_getsQ X (List.mem_of_getElem? (i := 1) rfl) dJ0_checkIndex_df160_2 ?_ (fun t_q => ?_)
  · refine V_callS (wr := []) (st := []) X (c_J3_n l D Y i k ti hk) 3 gJ0_checkIndex_df160_J3_checkIndex_8e157 rfl (by decide +kernel) ⟨rfl, rfl⟩ ⟨Nat.le_of_ble_eq_true rfl, Nat.le_of_ble_eq_true rfl⟩ [] [] rfl rfl rfl rfl (by decide) rfl rfl (Nat.le_of_ble_eq_true rfl) ⟨Nat.le_of_ble_eq_true rfl, Nat.le_of_ble_eq_true rfl⟩ dJ0_checkIndex_df160_5 (fun v_5 w_5 h_5 => ?_)
    obtain ⟨rfl, rfl⟩ := h_5
    refine V_to (pc' := 8) (ls' := [(0, .int i), (1, .int (15 : Int32))]) (st' := [.int i]) (ws' := []) ?_ rfl rfl rfl rfl
    refine V_pop X rfl dJ0_checkIndex_df160_8 ?_
    exact V_vret X hr dJ0_checkIndex_df160_9 (⟨rfl, rfl⟩)
  · refine V_callS (wr := []) (st := []) X (c_J3_r l D Y i k t_q ti hk) 3 gJ0_checkIndex_df160_J3_checkIndex_8e157 rfl (by decide +kernel) ⟨rfl, rfl⟩ ⟨Nat.le_of_ble_eq_true rfl, Nat.le_of_ble_eq_true rfl⟩ [] [] rfl rfl rfl rfl (by decide) rfl rfl (Nat.le_of_ble_eq_true rfl) ⟨Nat.le_of_ble_eq_true rfl, Nat.le_of_ble_eq_true rfl⟩ dJ0_checkIndex_df160_5 (fun v_5 w_5 h_5 => ?_)
    obtain ⟨rfl, rfl⟩ := h_5
    refine V_to (pc' := 8) (ls' := [(0, .int i), (1, .int (15 : Int32))]) (st' := [.int i]) (ws' := []) ?_ rfl rfl rfl rfl
    refine V_pop X rfl dJ0_checkIndex_df160_8 ?_
    exact V_vret X hr dJ0_checkIndex_df160_9 (⟨rfl, rfl⟩)

set_option maxHeartbeats 4000000 in
set_option maxRecDepth 100000 in
theorem c_J1_charAt_3b067 (l : Launch) (D : va_G) (Y : Nat → ClassId) (i : Int32) (k : Nat) (ti : i.toInt = ((k : Nat) : Int)) (hk : k < 15) : Mg l yJ1_charAt_3b067 wsJ1_charAt_3b067 ({ frames := 2, cells := 0, slots := 0, locals := 43 }) D Y [] [.ref (Y 9), .int i] 0 0 (fun vv__ ww__ => (∃ (r : Int32), vv__ = some (.int r) ∧ ww__ = [] ∧ (r = frB.getD k 0))) := by
  refine Mg_of (cc := cJ1_charAt_3b067) (maxL := 2) (ret := (some .char)) (ls0 := [(0, .ref (Y 9)), (1, .int i)]) RJ1 (by decide) rfl rfl rfl (Nat.le_of_ble_eq_true rfl) (fun p__ e__ s__ m__ b__ t__ c__ X hr hn => ?_)
  refine V_iload_n X 1 rfl dJ1_charAt_3b067_0 ?_
  refine V_aload_n X 0 rfl dJ1_charAt_3b067_1 ?_
  refine V_slen X dJ1_charAt_3b067_2 ?_
  refine V_callS (wr := []) (st := []) X (c_J0_checkIndex_df160 l D Y i k ti hk) 2 gJ1_charAt_3b067_J0_checkIndex_df160 rfl (by decide +kernel) ⟨rfl, rfl⟩ ⟨Nat.le_of_ble_eq_true rfl, Nat.le_of_ble_eq_true rfl⟩ [] [] rfl rfl rfl rfl (by decide) rfl rfl (Nat.le_of_ble_eq_true rfl) ⟨Nat.le_of_ble_eq_true rfl, Nat.le_of_ble_eq_true rfl⟩ dJ1_charAt_3b067_3 (fun v_3 w_3 h_3 => ?_)
  obtain ⟨rfl, rfl⟩ := h_3
  refine V_to (pc' := 6) (ls' := [(0, .ref (Y 9)), (1, .int i)]) (st' := []) (ws' := []) ?_ rfl rfl rfl rfl
  refine V_aload_n X 0 rfl dJ1_charAt_3b067_6 ?_
  refine V_iload_n X 1 rfl dJ1_charAt_3b067_7 ?_
  refine V_sbld X k ti (by omega) dJ1_charAt_3b067_8 ?_
  refine V_sipush (v := (255 : Int32)) X (by decide) dJ1_charAt_3b067_9 ?_
  refine V_iand X dJ1_charAt_3b067_12 (fun x_2 ex_2 => ?_)
  refine V_i2c X rfl dJ1_charAt_3b067_13 ?_
  refine V_nm (fun x_3 ex_3 => ?_)
  obtain hc9 : x_3 = frB.getD k 0 := by rw [ex_3, ex_2, (fr_rng k hk).2.2.1]; exact (fr_rng k hk).2.2.2.1
  exact V_zret X hr (by rw [hc9]; exact (fr_rng k hk).2.2.2.2) dJ1_charAt_3b067_14 (⟨x_3, rfl, rfl, hc9⟩)

set_option maxHeartbeats 4000000 in
set_option maxRecDepth 100000 in
theorem c_J0_charAt_5068e (l : Launch) (D : va_G) (Y : Nat → ClassId) (i : Int32) (k : Nat) (ti : i.toInt = ((k : Nat) : Int)) (hk : k < 15) : Mg l yJ0_charAt_5068e wsJ0_charAt_5068e ({ frames := 3, cells := 0, slots := 0, locals := 64 }) D Y [] [.ref (Y 8), .int i] 0 0 (fun vv__ ww__ => (∃ (r : Int32), vv__ = some (.int r) ∧ ww__ = [] ∧ (r = frB.getD k 0))) := by
  refine Mg_of (cc := cJ0_charAt_5068e) (maxL := 2) (ret := (some .char)) (ls0 := [(0, .ref (Y 8)), (1, .int i)]) RJ0 (by decide) rfl rfl rfl (Nat.le_of_ble_eq_true rfl) (fun p__ e__ s__ m__ b__ t__ c__ X hr hn => ?_)
  refine V_aload_n X 0 rfl dJ0_charAt_5068e_0 ?_
  refine V_callVO (wc := []) (wr := []) (st := []) X (c_J0_isLatin1_aae02 l D Y ) 0 gJ0_charAt_5068e_J0_isLatin1_aae02 rfl (by decide +kernel) ⟨rfl, rfl⟩ ⟨Nat.le_of_ble_eq_true rfl, Nat.le_of_ble_eq_true rfl⟩ [] [] rfl rfl rfl rfl (by decide) rfl rfl (Nat.le_of_ble_eq_true rfl) ⟨Nat.le_of_ble_eq_true rfl, Nat.le_of_ble_eq_true rfl⟩ dJ0_charAt_5068e_1 (fun v_1 w_1 h_1 => ?_)
  obtain ⟨rfl, rfl⟩ := h_1
  refine V_to (pc' := 4) (ls' := [(0, .ref (Y 8)), (1, .int i)]) (st' := [.int (1 : Int32)]) (ws' := []) ?_ rfl rfl rfl rfl
  refine V_if_eq X (show (1 : Int32).toInt = 1 from by decide) 16 dJ0_charAt_5068e_4 (by decide) (fun c_4 => absurd c_4 (by decide)) (fun _ => ?_)
  refine V_aload_n X 0 rfl dJ0_charAt_5068e_7 ?_
  refine V_sval X (List.mem_of_getElem? (i := 1) rfl) dJ0_charAt_5068e_8 ?_
  refine V_iload_n X 1 rfl dJ0_charAt_5068e_11 ?_
  refine V_callS (wr := []) (st := []) X (c_J1_charAt_3b067 l D Y i k ti hk) 2 gJ0_charAt_5068e_J1_charAt_3b067 rfl (by decide +kernel) ⟨rfl, rfl⟩ ⟨Nat.le_of_ble_eq_true rfl, Nat.le_of_ble_eq_true rfl⟩ [] [] rfl rfl rfl rfl (by decide) rfl rfl (Nat.le_of_ble_eq_true rfl) ⟨Nat.le_of_ble_eq_true rfl, Nat.le_of_ble_eq_true rfl⟩ dJ0_charAt_5068e_12 (fun v_12 w_12 h_12 => ?_)
  obtain ⟨r_3, rfl, rfl, hhr_4⟩ := h_12
  refine V_to (pc' := 15) (ls' := [(0, .ref (Y 8)), (1, .int i)]) (st' := [.int r_3]) (ws' := []) ?_ rfl rfl rfl rfl
  exact V_zret X hr (by rw [hhr_4]; exact (fr_rng k hk).2.2.2.2) dJ0_charAt_5068e_15 (⟨r_3, rfl, rfl, hhr_4⟩)
