/-- Cells.at, a place that is there -/
set_option maxHeartbeats 4000000 in
set_option maxRecDepth 100000 in
theorem c_X1_at (l : Launch) (D : va_G) (Y : Nat → ClassId) (a : Nat) (i : Int32) (k : Nat) (N : Nat) (f : Nat → Int32) (ti : i.toInt = ((k : Nat) : Int)) (hk : k < N) (hN : N < 2 ^ 31) : Mg l yX1_at wsX1_at ({ frames := 0, cells := 0, slots := 0, locals := 0 }) D Y [(a, .inl (Y 0, N, .inl f))] [.ref a, .int i] 0 0 (fun vv ww => (vv = some (.int (f k)) ∧ ww = [(a, .inl (Y 0, N, .inl f))])) := by
  refine Mg_of (cc := cX1_at) (maxL := 2) (ret := (some .int)) (ls0 := [(0, .ref a), (1, .int i)]) RX1 (by decide) rfl rfl rfl (Nat.le_of_ble_eq_true rfl) (fun p_ e_ s_ m_ b_ t_ c_ X hr hn => ?_)
  refine V_iload_n X 1 rfl dX1_at_0 ?_
  refine V_if_lt X ti 16 dX1_at_1 (by decide) (fun c_1 => False.elim (by omega)) (fun c_1 => ?_)
  refine V_iload_n X 1 rfl dX1_at_4 ?_
  refine V_aload_n X 0 rfl dX1_at_5 ?_
  refine V_alen (v := (nI N)) X 0 0 rfl rfl rfl dX1_at_6 ?_
  refine V_icmp_ge X ti (nI_toInt (by omega)) 16 dX1_at_7 (by decide) (fun c_7 => False.elim (by omega)) (fun c_7 => ?_)
  refine V_aload_n X 0 rfl dX1_at_10 ?_
  refine V_iload_n X 1 rfl dX1_at_11 ?_
  refine V_iald X 0 k rfl ti (by omega) dX1_at_12 ?_
  refine V_goto X 17 dX1_at_13 (by decide) ?_
  exact V_iret X hr dX1_at_17 (⟨rfl, rfl⟩)

/-- Cells.at, a place that is not there -/
set_option maxHeartbeats 4000000 in
set_option maxRecDepth 100000 in
theorem c_X1_at_out (l : Launch) (D : va_G) (Y : Nat → ClassId) (a : Nat) (i : Int32) (N : Nat) (f : Nat → Int32) (hk : i.toInt < 0 ∨ (N : Int) ≤ i.toInt) (hN : N < 2 ^ 31) : Mg l yX1_at wsX1_at ({ frames := 0, cells := 0, slots := 0, locals := 0 }) D Y [(a, .inl (Y 0, N, .inl f))] [.ref a, .int i] 0 0 (fun vv ww => (vv = some (.int 0) ∧ ww = [(a, .inl (Y 0, N, .inl f))])) := by
  refine Mg_of (cc := cX1_at) (maxL := 2) (ret := (some .int)) (ls0 := [(0, .ref a), (1, .int i)]) RX1 (by decide) rfl rfl rfl (Nat.le_of_ble_eq_true rfl) (fun p_ e_ s_ m_ b_ t_ c_ X hr hn => ?_)
  refine V_iload_n X 1 rfl dX1_at_0 ?_
  refine V_if_lt X rfl 16 dX1_at_1 (by decide) (fun c_1 => ?_) (fun c_1 => ?_)
  · refine V_iconst (v := 0) X (by decide) dX1_at_16 ?_
    exact V_iret X hr dX1_at_17 (⟨rfl, rfl⟩)
  · refine V_iload_n X 1 rfl dX1_at_4 ?_
    refine V_aload_n X 0 rfl dX1_at_5 ?_
    refine V_alen (v := (nI N)) X 0 0 rfl rfl rfl dX1_at_6 ?_
    refine V_icmp_ge X rfl (nI_toInt (by omega)) 16 dX1_at_7 (by decide) (fun c_7 => ?_) (fun c_7 => False.elim (by omega))
    refine V_iconst (v := 0) X (by decide) dX1_at_16 ?_
    exact V_iret X hr dX1_at_17 (⟨rfl, rfl⟩)

/-- Cells.set, a place that is there -/
set_option maxHeartbeats 4000000 in
set_option maxRecDepth 100000 in
theorem c_X1_set (l : Launch) (D : va_G) (Y : Nat → ClassId) (a : Nat) (i : Int32) (k : Nat) (v : Int32) (N : Nat) (f : Nat → Int32) (ti : i.toInt = ((k : Nat) : Int)) (hk : k < N) (hN : N < 2 ^ 31) : Mg l yX1_set wsX1_set ({ frames := 0, cells := 0, slots := 0, locals := 0 }) D Y [(a, .inl (Y 0, N, .inl f))] [.ref a, .int i, .int v] 0 0 (fun vv ww => (vv = none ∧ ww = [(a, .inl (Y 0, N, .inl (upd f k v)))])) := by
  refine Mg_of (cc := cX1_set) (maxL := 3) (ret := none) (ls0 := [(0, .ref a), (1, .int i), (2, .int v)]) RX1 (by decide) rfl rfl rfl (Nat.le_of_ble_eq_true rfl) (fun p_ e_ s_ m_ b_ t_ c_ X hr hn => ?_)
  refine V_iload_n X 1 rfl dX1_set_0 ?_
  refine V_if_lt X ti 14 dX1_set_1 (by decide) (fun c_1 => False.elim (by omega)) (fun c_1 => ?_)
  refine V_iload_n X 1 rfl dX1_set_4 ?_
  refine V_aload_n X 0 rfl dX1_set_5 ?_
  refine V_alen (v := (nI N)) X 0 0 rfl rfl rfl dX1_set_6 ?_
  refine V_icmp_ge X ti (nI_toInt (by omega)) 14 dX1_set_7 (by decide) (fun c_7 => False.elim (by omega)) (fun c_7 => ?_)
  refine V_aload_n X 0 rfl dX1_set_10 ?_
  refine V_iload_n X 1 rfl dX1_set_11 ?_
  refine V_iload_n X 2 rfl dX1_set_12 ?_
  refine V_iast (ws' := [(a, .inl (Y 0, N, .inl (upd f k v)))]) X 0 k rfl ti (by omega) rfl dX1_set_13 ?_
  exact V_vret X hr dX1_set_14 (⟨rfl, rfl⟩)

/-- Cells.set, a place that is not there -/
set_option maxHeartbeats 4000000 in
set_option maxRecDepth 100000 in
theorem c_X1_set_out (l : Launch) (D : va_G) (Y : Nat → ClassId) (a : Nat) (i : Int32) (v : Int32) (N : Nat) (f : Nat → Int32) (hk : i.toInt < 0 ∨ (N : Int) ≤ i.toInt) (hN : N < 2 ^ 31) : Mg l yX1_set wsX1_set ({ frames := 0, cells := 0, slots := 0, locals := 0 }) D Y [(a, .inl (Y 0, N, .inl f))] [.ref a, .int i, .int v] 0 0 (fun vv ww => (vv = none ∧ ww = [(a, .inl (Y 0, N, .inl f))])) := by
  refine Mg_of (cc := cX1_set) (maxL := 3) (ret := none) (ls0 := [(0, .ref a), (1, .int i), (2, .int v)]) RX1 (by decide) rfl rfl rfl (Nat.le_of_ble_eq_true rfl) (fun p_ e_ s_ m_ b_ t_ c_ X hr hn => ?_)
  refine V_iload_n X 1 rfl dX1_set_0 ?_
  refine V_if_lt X rfl 14 dX1_set_1 (by decide) (fun c_1 => ?_) (fun c_1 => ?_)
  · exact V_vret X hr dX1_set_14 (⟨rfl, rfl⟩)
  · refine V_iload_n X 1 rfl dX1_set_4 ?_
    refine V_aload_n X 0 rfl dX1_set_5 ?_
    refine V_alen (v := (nI N)) X 0 0 rfl rfl rfl dX1_set_6 ?_
    refine V_icmp_ge X rfl (nI_toInt (by omega)) 14 dX1_set_7 (by decide) (fun c_7 => ?_) (fun c_7 => False.elim (by omega))
    exact V_vret X hr dX1_set_14 (⟨rfl, rfl⟩)

set_option maxHeartbeats 4000000 in
set_option maxRecDepth 100000 in
theorem c_X10_isOf (l : Launch) (D : va_G) (Y : Nat → ClassId) (x : Int32) (y : Int32) : Mg l yX10_isOf wsX10_isOf ({ frames := 0, cells := 0, slots := 0, locals := 0 }) D Y [] [.int x, .int y] 0 0 (fun vv ww => (vv = some (.int 1) ∧ ww = [] ∧ (0 ≤ x.toInt ∧ x.toInt < y.toInt)) ∨ (vv = some (.int 0) ∧ ww = [] ∧ (¬ (0 ≤ x.toInt ∧ x.toInt < y.toInt)))) := by
  refine Mg_of (cc := cX10_isOf) (maxL := 2) (ret := (some .boolean)) (ls0 := [(0, .int x), (1, .int y)]) RX10 (by decide) rfl rfl rfl (Nat.le_of_ble_eq_true rfl) (fun p_ e_ s_ m_ b_ t_ c_ X hr hn => ?_)
  refine V_iload_n X 0 rfl dX10_isOf_0 ?_
  refine V_if_lt X rfl 13 dX10_isOf_1 (by decide) (fun c_1 => ?_) (fun c_1 => ?_)
  · refine V_iconst (v := 0) X (by decide) dX10_isOf_13 ?_
    exact V_zret X hr rfl dX10_isOf_14 (Or.inr (⟨rfl, rfl, (by omega)⟩))
  · refine V_iload_n X 0 rfl dX10_isOf_4 ?_
    refine V_iload_n X 1 rfl dX10_isOf_5 ?_
    refine V_icmp_ge X rfl rfl 13 dX10_isOf_6 (by decide) (fun c_6 => ?_) (fun c_6 => ?_)
    · refine V_iconst (v := 0) X (by decide) dX10_isOf_13 ?_
      exact V_zret X hr rfl dX10_isOf_14 (Or.inr (⟨rfl, rfl, (by omega)⟩))
    · refine V_iconst (v := 1) X (by decide) dX10_isOf_9 ?_
      refine V_goto X 14 dX10_isOf_10 (by decide) ?_
      exact V_zret X hr rfl dX10_isOf_14 (Or.inl ⟨rfl, rfl, (by omega)⟩)

theorem in_X8_size_X8 : ∀ w ∈ wsX80, w ∈ wsX8_size := fun w h => List.mem_cons_of_mem _ (List.mem_append_right _ h)
set_option maxHeartbeats 4000000 in
set_option maxRecDepth 100000 in
theorem c_X8_size (l : Launch) (D : va_G) (Y : Nat → ClassId) (o : Nat) (p : Nat) (h : Nat) (sa : Nat) (si : Nat) (z : Int32) : Mg l yX8_size wsX8_size ({ frames := 0, cells := 0, slots := 0, locals := 0 }) D Y [(o, .inr (7, [.ref p, .ref h, .ref sa, .ref si, .int z]))] [.ref o] 0 0 (fun vv ww => (vv = some (.int z) ∧ ww = [(o, .inr (7, [.ref p, .ref h, .ref sa, .ref si, .int z]))])) := by
  refine Mg_of (cc := cX8_size) (maxL := 1) (ret := (some .int)) (ls0 := [(0, .ref o)]) RX8 (by decide) rfl rfl rfl (Nat.le_of_ble_eq_true rfl) (fun p_ e_ s_ m_ b_ t_ c_ X hr hn => ?_)
  refine V_aload_n X 0 rfl dX8_size_0 ?_
  refine V_get (C := RX8) (T := TX8) (N := 5) (ci := 7) (v := .int z) X in_X8_size_X8 0 rfl rfl 4 (by decide) (List.mem_of_getElem? (i := 1) rfl) rfl rfl dX8_size_1 ?_
  exact V_iret X hr dX8_size_4 (⟨rfl, rfl⟩)

theorem in_X8_isFull_X8 : ∀ w ∈ wsX80, w ∈ wsX8_isFull := fun w h => List.mem_cons_of_mem _ (List.mem_append_right _ h)
set_option maxHeartbeats 4000000 in
set_option maxRecDepth 100000 in
theorem c_X8_isFull (l : Launch) (D : va_G) (Y : Nat → ClassId) (o : Nat) (p : Nat) (h : Nat) (sa : Nat) (si : Nat) (z : Int32) : Mg l yX8_isFull wsX8_isFull ({ frames := 0, cells := 0, slots := 0, locals := 0 }) D Y [(o, .inr (7, [.ref p, .ref h, .ref sa, .ref si, .int z]))] [.ref o] 0 0 (fun vv ww => (vv = some (.int 1) ∧ ww = [(o, .inr (7, [.ref p, .ref h, .ref sa, .ref si, .int z]))] ∧ (12 ≤ z.toInt)) ∨ (vv = some (.int 0) ∧ ww = [(o, .inr (7, [.ref p, .ref h, .ref sa, .ref si, .int z]))] ∧ (z.toInt < 12))) := by
  refine Mg_of (cc := cX8_isFull) (maxL := 1) (ret := (some .boolean)) (ls0 := [(0, .ref o)]) RX8 (by decide) rfl rfl rfl (Nat.le_of_ble_eq_true rfl) (fun p_ e_ s_ m_ b_ t_ c_ X hr hn => ?_)
  refine V_aload_n X 0 rfl dX8_isFull_0 ?_
  refine V_get (C := RX8) (T := TX8) (N := 5) (ci := 7) (v := .int z) X in_X8_isFull_X8 0 rfl rfl 4 (by decide) (List.mem_of_getElem? (i := 1) rfl) rfl rfl dX8_isFull_1 ?_
  refine V_bipush (v := 12) X (by decide) dX8_isFull_4 ?_
  refine V_icmp_lt X rfl (by decide) 13 dX8_isFull_6 (by decide) (fun c_6 => ?_) (fun c_6 => ?_)
  · refine V_iconst (v := 0) X (by decide) dX8_isFull_13 ?_
    exact V_zret X hr rfl dX8_isFull_14 (Or.inr (⟨rfl, rfl, c_6⟩))
  · refine V_iconst (v := 1) X (by decide) dX8_isFull_9 ?_
    refine V_goto X 14 dX8_isFull_10 (by decide) ?_
    exact V_zret X hr rfl dX8_isFull_14 (Or.inl ⟨rfl, rfl, c_6⟩)

theorem in_X8_isLine_X8 : ∀ w ∈ wsX80, w ∈ wsX8_isLine := fun w h => List.mem_cons_of_mem _ (List.mem_append_right _ h)
set_option maxHeartbeats 4000000 in
set_option maxRecDepth 100000 in
theorem c_X8_isLine (l : Launch) (D : va_G) (Y : Nat → ClassId) (o : Nat) (x : Int32) (p : Nat) (h : Nat) (sa : Nat) (si : Nat) (z : Int32) : Mg l yX8_isLine wsX8_isLine ({ frames := 0, cells := 0, slots := 0, locals := 0 }) D Y [(o, .inr (7, [.ref p, .ref h, .ref sa, .ref si, .int z]))] [.ref o, .int x] 0 0 (fun vv ww => (vv = some (.int 1) ∧ ww = [(o, .inr (7, [.ref p, .ref h, .ref sa, .ref si, .int z]))] ∧ (0 ≤ x.toInt ∧ x.toInt < z.toInt)) ∨ (vv = some (.int 0) ∧ ww = [(o, .inr (7, [.ref p, .ref h, .ref sa, .ref si, .int z]))] ∧ (¬ (0 ≤ x.toInt ∧ x.toInt < z.toInt)))) := by
  refine Mg_of (cc := cX8_isLine) (maxL := 2) (ret := (some .boolean)) (ls0 := [(0, .ref o), (1, .int x)]) RX8 (by decide) rfl rfl rfl (Nat.le_of_ble_eq_true rfl) (fun p_ e_ s_ m_ b_ t_ c_ X hr hn => ?_)
  refine V_iload_n X 1 rfl dX8_isLine_0 ?_
  refine V_if_lt X rfl 16 dX8_isLine_1 (by decide) (fun c_1 => ?_) (fun c_1 => ?_)
  · refine V_iconst (v := 0) X (by decide) dX8_isLine_16 ?_
    exact V_zret X hr rfl dX8_isLine_17 (Or.inr (⟨rfl, rfl, (by omega)⟩))
  · refine V_iload_n X 1 rfl dX8_isLine_4 ?_
    refine V_aload_n X 0 rfl dX8_isLine_5 ?_
    refine V_get (C := RX8) (T := TX8) (N := 5) (ci := 7) (v := .int z) X in_X8_isLine_X8 0 rfl rfl 4 (by decide) (List.mem_of_getElem? (i := 1) rfl) rfl rfl dX8_isLine_6 ?_
    refine V_icmp_ge X rfl rfl 16 dX8_isLine_9 (by decide) (fun c_9 => ?_) (fun c_9 => ?_)
    · refine V_iconst (v := 0) X (by decide) dX8_isLine_16 ?_
      exact V_zret X hr rfl dX8_isLine_17 (Or.inr (⟨rfl, rfl, (by omega)⟩))
    · refine V_iconst (v := 1) X (by decide) dX8_isLine_12 ?_
      refine V_goto X 17 dX8_isLine_13 (by decide) ?_
      exact V_zret X hr rfl dX8_isLine_17 (Or.inl ⟨rfl, rfl, (by omega)⟩)

theorem in_X8_part_X8 : ∀ w ∈ wsX80, w ∈ wsX8_part := fun w h => List.mem_cons_of_mem _ (List.mem_append_right _ h)
set_option maxHeartbeats 4000000 in
set_option maxRecDepth 100000 in
theorem c_X8_part (l : Launch) (D : va_G) (Y : Nat → ClassId) (o : Nat) (p : Nat) (h : Nat) (sa : Nat) (si : Nat) (z : Int32) (x : Int32) (l_ : Nat) (y : Int32) (w : Nat) (fp : Nat → Int32) (tx : x.toInt = ((l_ : Nat) : Int)) (ty : y.toInt = ((w : Nat) : Int)) (hl : l_ < 12) (hw : w < 3) : Mg l yX8_part wsX8_part ({ frames := 1, cells := 0, slots := 0, locals := 21 }) D Y [(o, .inr (7, [.ref p, .ref h, .ref sa, .ref si, .int z])), (p, .inl (Y 0, 36, .inl fp))] [.ref o, .int x, .int y] 0 0 (fun vv ww => (vv = some (.int (fp (3 * l_ + w))) ∧ ww = [(o, .inr (7, [.ref p, .ref h, .ref sa, .ref si, .int z])), (p, .inl (Y 0, 36, .inl fp))])) := by
  refine Mg_of (cc := cX8_part) (maxL := 3) (ret := (some .int)) (ls0 := [(0, .ref o), (1, .int x), (2, .int y)]) RX8 (by decide) rfl rfl rfl (Nat.le_of_ble_eq_true rfl) (fun p_ e_ s_ m_ b_ t_ c_ X hr hn => ?_)
  refine V_aload_n X 0 rfl dX8_part_0 ?_
  refine V_get (C := RX8) (T := TX8) (N := 5) (ci := 7) (v := .ref p) X in_X8_part_X8 0 rfl rfl 0 (by decide) (List.mem_of_getElem? (i := 1) rfl) rfl rfl dX8_part_1 ?_
  refine V_iconst (v := 3) X (by decide) dX8_part_4 ?_
  refine V_iload_n X 1 rfl dX8_part_5 ?_
  refine V_imulZ X (by decide) tx (by omega) (by omega) dX8_part_6 (fun x_1 ex_1 tx_1 => ?_)
  have tx_1 : x_1.toInt = (((3 * l_) : Nat) : Int) := by omega
  refine V_iload_n X 2 rfl dX8_part_7 ?_
  refine V_iaddZ X tx_1 ty (by omega) (by omega) dX8_part_8 (fun x_2 ex_2 tx_2 => ?_)
  have tx_2 : x_2.toInt = ((((3 * l_) + w) : Nat) : Int) := by omega
  refine V_callS (wr := [(o, .inr (7, [.ref p, .ref h, .ref sa, .ref si, .int z]))]) (st := []) X (c_X1_at l D Y p x_2 ((3 * l_) + w) 36 fp tx_2 (by omega) (by omega)) 2 gX8_part_X1_at rfl (by decide +kernel) ⟨rfl, rfl⟩ ⟨Nat.le_of_ble_eq_true rfl, Nat.le_of_ble_eq_true rfl⟩ [1] [0] rfl rfl rfl rfl (by decide) rfl rfl (by decide) ⟨Nat.le_of_ble_eq_true rfl, Nat.le_of_ble_eq_true rfl⟩ dX8_part_9 (fun v_9 w_9 h_9 => ?_)
  obtain ⟨rfl, rfl⟩ := h_9
  refine V_to (pc' := 12) (ls' := [(0, .ref o), (1, .int x), (2, .int y)]) (st' := [.int (fp ((3 * l_) + w))]) (ws' := [(o, .inr (7, [.ref p, .ref h, .ref sa, .ref si, .int z])), (p, .inl (Y 0, 36, .inl fp))]) ?_ rfl rfl rfl rfl
  exact V_iret X hr dX8_part_12 (⟨(by first | rfl | (congr 2)), rfl⟩)

theorem in_X8_setPart_X8 : ∀ w ∈ wsX80, w ∈ wsX8_setPart := fun w h => List.mem_cons_of_mem _ (List.mem_append_right _ h)
set_option maxHeartbeats 4000000 in
set_option maxRecDepth 100000 in
theorem c_X8_setPart (l : Launch) (D : va_G) (Y : Nat → ClassId) (o : Nat) (p : Nat) (h : Nat) (sa : Nat) (si : Nat) (z : Int32) (x : Int32) (l_ : Nat) (y : Int32) (w : Nat) (v : Int32) (fp : Nat → Int32) (tx : x.toInt = ((l_ : Nat) : Int)) (ty : y.toInt = ((w : Nat) : Int)) (hl : l_ < 12) (hw : w < 3) : Mg l yX8_setPart wsX8_setPart ({ frames := 1, cells := 0, slots := 0, locals := 22 }) D Y [(o, .inr (7, [.ref p, .ref h, .ref sa, .ref si, .int z])), (p, .inl (Y 0, 36, .inl fp))] [.ref o, .int x, .int y, .int v] 0 0 (fun vv ww => (vv = none ∧ ww = [(o, .inr (7, [.ref p, .ref h, .ref sa, .ref si, .int z])), (p, .inl (Y 0, 36, .inl (upd fp (3 * l_ + w) v)))])) := by
  refine Mg_of (cc := cX8_setPart) (maxL := 4) (ret := none) (ls0 := [(0, .ref o), (1, .int x), (2, .int y), (3, .int v)]) RX8 (by decide) rfl rfl rfl (Nat.le_of_ble_eq_true rfl) (fun p_ e_ s_ m_ b_ t_ c_ X hr hn => ?_)
  refine V_aload_n X 0 rfl dX8_setPart_0 ?_
  refine V_get (C := RX8) (T := TX8) (N := 5) (ci := 7) (v := .ref p) X in_X8_setPart_X8 0 rfl rfl 0 (by decide) (List.mem_of_getElem? (i := 1) rfl) rfl rfl dX8_setPart_1 ?_
  refine V_iconst (v := 3) X (by decide) dX8_setPart_4 ?_
  refine V_iload_n X 1 rfl dX8_setPart_5 ?_
  refine V_imulZ X (by decide) tx (by omega) (by omega) dX8_setPart_6 (fun x_1 ex_1 tx_1 => ?_)
  have tx_1 : x_1.toInt = (((3 * l_) : Nat) : Int) := by omega
  refine V_iload_n X 2 rfl dX8_setPart_7 ?_
  refine V_iaddZ X tx_1 ty (by omega) (by omega) dX8_setPart_8 (fun x_2 ex_2 tx_2 => ?_)
  have tx_2 : x_2.toInt = ((((3 * l_) + w) : Nat) : Int) := by omega
  refine V_iload_n X 3 rfl dX8_setPart_9 ?_
  refine V_callS (wr := [(o, .inr (7, [.ref p, .ref h, .ref sa, .ref si, .int z]))]) (st := []) X (c_X1_set l D Y p x_2 ((3 * l_) + w) v 36 fp tx_2 (by omega) (by omega)) 3 gX8_setPart_X1_set rfl (by decide +kernel) ⟨rfl, rfl⟩ ⟨Nat.le_of_ble_eq_true rfl, Nat.le_of_ble_eq_true rfl⟩ [1] [0] rfl rfl rfl rfl (by decide) rfl rfl (by decide) ⟨Nat.le_of_ble_eq_true rfl, Nat.le_of_ble_eq_true rfl⟩ dX8_setPart_10 (fun v_10 w_10 h_10 => ?_)
  obtain ⟨rfl, rfl⟩ := h_10
  refine V_to (pc' := 13) (ls' := [(0, .ref o), (1, .int x), (2, .int y), (3, .int v)]) (st' := []) (ws' := [(o, .inr (7, [.ref p, .ref h, .ref sa, .ref si, .int z])), (p, .inl (Y 0, 36, .inl (upd fp ((3 * l_) + w) v)))]) ?_ rfl rfl rfl rfl
  exact V_vret X hr dX8_setPart_13 (⟨rfl, rfl⟩)

set_option maxHeartbeats 4000000 in
set_option maxRecDepth 100000 in
theorem c_X8_singerOf (l : Launch) (D : va_G) (Y : Nat → ClassId) (b : Int32) (bn : Nat) (tb : b.toInt = ((bn : Nat) : Int)) : Mg l yX8_singerOf wsX8_singerOf ({ frames := 0, cells := 0, slots := 0, locals := 0 }) D Y [] [.int b] 0 0 (fun vv ww => (∃ (r : Int32), vv = some (.int r) ∧ ww = [] ∧ (r.toInt = ((bn / 24 : Nat) : Int)))) := by
  refine Mg_of (cc := cX8_singerOf) (maxL := 1) (ret := (some .int)) (ls0 := [(0, .int b)]) RX8 (by decide) rfl rfl rfl (Nat.le_of_ble_eq_true rfl) (fun p_ e_ s_ m_ b_ t_ c_ X hr hn => ?_)
  refine V_iload_n X 0 rfl dX8_singerOf_0 ?_
  refine V_bipush (v := 24) X (by decide) dX8_singerOf_1 ?_
  refine V_idivZ X tb (by decide) (by omega) (by omega) dX8_singerOf_3 (fun x_1 ex_1 tx_1 => ?_)
  have tx_1 : x_1.toInt = (((bn / 24) : Nat) : Int) := by omega
  exact V_iret X hr dX8_singerOf_4 (⟨x_1, rfl, rfl, (by have h9 : x_1.toInt = (((bn / 24) : Nat) : Int) := tx_1; omega)⟩)

set_option maxHeartbeats 4000000 in
set_option maxRecDepth 100000 in
theorem c_X8_lineOf (l : Launch) (D : va_G) (Y : Nat → ClassId) (b : Int32) (bn : Nat) (tb : b.toInt = ((bn : Nat) : Int)) : Mg l yX8_lineOf wsX8_lineOf ({ frames := 0, cells := 0, slots := 0, locals := 0 }) D Y [] [.int b] 0 0 (fun vv ww => (∃ (r : Int32), vv = some (.int r) ∧ ww = [] ∧ (r.toInt = ((bn / 2 % 12 : Nat) : Int)))) := by
  refine Mg_of (cc := cX8_lineOf) (maxL := 1) (ret := (some .int)) (ls0 := [(0, .int b)]) RX8 (by decide) rfl rfl rfl (Nat.le_of_ble_eq_true rfl) (fun p_ e_ s_ m_ b_ t_ c_ X hr hn => ?_)
  refine V_iload_n X 0 rfl dX8_lineOf_0 ?_
  refine V_iconst (v := 2) X (by decide) dX8_lineOf_1 ?_
  refine V_idivZ X tb (by decide) (by omega) (by omega) dX8_lineOf_2 (fun x_1 ex_1 tx_1 => ?_)
  have tx_1 : x_1.toInt = (((bn / 2) : Nat) : Int) := by omega
  refine V_bipush (v := 12) X (by decide) dX8_lineOf_3 ?_
  refine V_iremZ X tx_1 (by decide) (by omega) (by omega) dX8_lineOf_5 (fun x_2 ex_2 tx_2 => ?_)
  have tx_2 : x_2.toInt = ((((bn / 2) % 12) : Nat) : Int) := by omega
  exact V_iret X hr dX8_lineOf_6 (⟨x_2, rfl, rfl, (by have h9 : x_2.toInt = ((((bn / 2) % 12) : Nat) : Int) := tx_2; omega)⟩)

set_option maxHeartbeats 4000000 in
set_option maxRecDepth 100000 in
theorem c_X8_whichOf (l : Launch) (D : va_G) (Y : Nat → ClassId) (b : Int32) (bn : Nat) (tb : b.toInt = ((bn : Nat) : Int)) : Mg l yX8_whichOf wsX8_whichOf ({ frames := 0, cells := 0, slots := 0, locals := 0 }) D Y [] [.int b] 0 0 (fun vv ww => (∃ (r : Int32), vv = some (.int r) ∧ ww = [] ∧ (r.toInt = ((bn % 2 : Nat) : Int)))) := by
  refine Mg_of (cc := cX8_whichOf) (maxL := 1) (ret := (some .int)) (ls0 := [(0, .int b)]) RX8 (by decide) rfl rfl rfl (Nat.le_of_ble_eq_true rfl) (fun p_ e_ s_ m_ b_ t_ c_ X hr hn => ?_)
  refine V_iload_n X 0 rfl dX8_whichOf_0 ?_
  refine V_iconst (v := 2) X (by decide) dX8_whichOf_1 ?_
  refine V_iremZ X tb (by decide) (by omega) (by omega) dX8_whichOf_2 (fun x_1 ex_1 tx_1 => ?_)
  have tx_1 : x_1.toInt = (((bn % 2) : Nat) : Int) := by omega
  exact V_iret X hr dX8_whichOf_3 (⟨x_1, rfl, rfl, (by have h9 : x_1.toInt = (((bn % 2) : Nat) : Int) := tx_1; omega)⟩)

set_option maxHeartbeats 4000000 in
set_option maxRecDepth 100000 in
theorem c_X8_bit (l : Launch) (D : va_G) (Y : Nat → ClassId) (q : Int32) (pn : Nat) (x : Int32) (l_ : Nat) (y : Int32) (w : Nat) (tq : q.toInt = ((pn : Nat) : Int)) (tx : x.toInt = ((l_ : Nat) : Int)) (ty : y.toInt = ((w : Nat) : Int)) (hl : l_ < 12) (hp : pn < 4) (hw : w < 2) : Mg l yX8_bit wsX8_bit ({ frames := 0, cells := 0, slots := 0, locals := 0 }) D Y [] [.int q, .int x, .int y] 0 0 (fun vv ww => (∃ (r : Int32), vv = some (.int r) ∧ ww = [] ∧ (r.toInt = ((24 * pn + 2 * l_ + w : Nat) : Int)))) := by
  refine Mg_of (cc := cX8_bit) (maxL := 3) (ret := (some .int)) (ls0 := [(0, .int q), (1, .int x), (2, .int y)]) RX8 (by decide) rfl rfl rfl (Nat.le_of_ble_eq_true rfl) (fun p_ e_ s_ m_ b_ t_ c_ X hr hn => ?_)
  refine V_iload_n X 0 rfl dX8_bit_0 ?_
  refine V_bipush (v := 12) X (by decide) dX8_bit_1 ?_
  refine V_imulZ X tq (by decide) (by omega) (by omega) dX8_bit_3 (fun x_1 ex_1 tx_1 => ?_)
  have tx_1 : x_1.toInt = (((pn * 12) : Nat) : Int) := by omega
  refine V_iload_n X 1 rfl dX8_bit_4 ?_
  refine V_iaddZ X tx_1 tx (by omega) (by omega) dX8_bit_5 (fun x_2 ex_2 tx_2 => ?_)
  have tx_2 : x_2.toInt = ((((pn * 12) + l_) : Nat) : Int) := by omega
  refine V_iconst (v := 2) X (by decide) dX8_bit_6 ?_
  refine V_imulZ X tx_2 (by decide) (by omega) (by omega) dX8_bit_7 (fun x_3 ex_3 tx_3 => ?_)
  have tx_3 : x_3.toInt = (((((pn * 12) + l_) * 2) : Nat) : Int) := by omega
  refine V_iload_n X 2 rfl dX8_bit_8 ?_
  refine V_iaddZ X tx_3 ty (by omega) (by omega) dX8_bit_9 (fun x_4 ex_4 tx_4 => ?_)
  have tx_4 : x_4.toInt = ((((((pn * 12) + l_) * 2) + w) : Nat) : Int) := by omega
  exact V_iret X hr dX8_bit_10 (⟨x_4, rfl, rfl, (by have h9 : x_4.toInt = ((((((pn * 12) + l_) * 2) + w) : Nat) : Int) := tx_4; omega)⟩)

theorem in_X8_isHad_X8 : ∀ w ∈ wsX80, w ∈ wsX8_isHad := fun w h => List.mem_cons_of_mem _ (List.mem_append_right _ h)
set_option maxHeartbeats 4000000 in
set_option maxRecDepth 100000 in
theorem c_X8_isHad (l : Launch) (D : va_G) (Y : Nat → ClassId) (o : Nat) (p : Nat) (h : Nat) (sa : Nat) (si : Nat) (z : Int32) (b : Int32) (bn : Nat) (fh : Nat → Int32) (B : Nat → Bool) (hH : HV fh B) (tb : b.toInt = ((bn : Nat) : Int)) (hb : bn < 96) : Mg l yX8_isHad wsX8_isHad ({ frames := 1, cells := 0, slots := 0, locals := 21 }) D Y [(o, .inr (7, [.ref p, .ref h, .ref sa, .ref si, .int z])), (h, .inl (Y 0, 24, .inl fh))] [.ref o, .int b] 0 0 (fun vv ww => (vv = some (.int 1) ∧ ww = [(o, .inr (7, [.ref p, .ref h, .ref sa, .ref si, .int z])), (h, .inl (Y 0, 24, .inl fh))] ∧ (B bn = true)) ∨ (vv = some (.int 0) ∧ ww = [(o, .inr (7, [.ref p, .ref h, .ref sa, .ref si, .int z])), (h, .inl (Y 0, 24, .inl fh))] ∧ (B bn = false))) := by
  refine Mg_of (cc := cX8_isHad) (maxL := 2) (ret := (some .boolean)) (ls0 := [(0, .ref o), (1, .int b)]) RX8 (by decide) rfl rfl rfl (Nat.le_of_ble_eq_true rfl) (fun p_ e_ s_ m_ b_ t_ c_ X hr hn => ?_)
  refine V_aload_n X 0 rfl dX8_isHad_0 ?_
  refine V_get (C := RX8) (T := TX8) (N := 5) (ci := 7) (v := .ref h) X in_X8_isHad_X8 0 rfl rfl 1 (by decide) (List.mem_of_getElem? (i := 1) rfl) rfl rfl dX8_isHad_1 ?_
  refine V_iload_n X 1 rfl dX8_isHad_4 ?_
  refine V_bipush (v := 24) X (by decide) dX8_isHad_5 ?_
  refine V_iremZ X tb (by decide) (by omega) (by omega) dX8_isHad_7 (fun x_1 ex_1 tx_1 => ?_)
  have tx_1 : x_1.toInt = (((bn % 24) : Nat) : Int) := by omega
  refine V_callS (wr := [(o, .inr (7, [.ref p, .ref h, .ref sa, .ref si, .int z]))]) (st := []) X (c_X1_at l D Y h x_1 (bn % 24) 24 fh tx_1 (by omega) (by omega)) 2 gX8_isHad_X1_at rfl (by decide +kernel) ⟨rfl, rfl⟩ ⟨Nat.le_of_ble_eq_true rfl, Nat.le_of_ble_eq_true rfl⟩ [1] [0] rfl rfl rfl rfl (by decide) rfl rfl (by decide) ⟨Nat.le_of_ble_eq_true rfl, Nat.le_of_ble_eq_true rfl⟩ dX8_isHad_8 (fun v_8 w_8 h_8 => ?_)
  obtain ⟨rfl, rfl⟩ := h_8
  refine V_to (pc' := 11) (ls' := [(0, .ref o), (1, .int b)]) (st' := [.int (fh (bn % 24))]) (ws' := [(o, .inr (7, [.ref p, .ref h, .ref sa, .ref si, .int z])), (h, .inl (Y 0, 24, .inl fh))]) ?_ rfl rfl rfl rfl
  refine V_iload_n X 1 rfl dX8_isHad_11 ?_
  refine V_callS (wr := [(o, .inr (7, [.ref p, .ref h, .ref sa, .ref si, .int z])), (h, .inl (Y 0, 24, .inl fh))]) (st := [.int (fh (bn % 24))]) X (c_X8_singerOf l D Y b bn tb) 1 gX8_isHad_X8_singerOf rfl (by decide +kernel) ⟨rfl, rfl⟩ ⟨Nat.le_of_ble_eq_true rfl, Nat.le_of_ble_eq_true rfl⟩ [] [0, 1] rfl rfl rfl rfl (by decide) rfl rfl (by decide) ⟨Nat.le_of_ble_eq_true rfl, Nat.le_of_ble_eq_true rfl⟩ dX8_isHad_12 (fun v_12 w_12 h_12 => ?_)
  obtain ⟨r_4, rfl, rfl, htr_5⟩ := h_12
  refine V_to (pc' := 15) (ls' := [(0, .ref o), (1, .int b)]) (st' := [.int r_4, .int (fh (bn % 24))]) (ws' := [(o, .inr (7, [.ref p, .ref h, .ref sa, .ref si, .int z])), (h, .inl (Y 0, 24, .inl fh))]) ?_ rfl rfl rfl rfl
  refine V_ishr X dX8_isHad_15 (fun x_6 ex_6 => ?_)
  refine V_iconst (v := 1) X (by decide) dX8_isHad_16 ?_
  refine V_iand X dX8_isHad_17 (fun x_7 ex_7 => ?_)
  have tx_7 : x_7.toInt = bz (B bn) := (HV_at hH hb) ▸ (b_pick ex_7 ex_6 htr_5 (by omega))
  refine V_iconst (v := 1) X (by decide) dX8_isHad_18 ?_
  refine V_icmp_ne X tx_7 (by decide) 26 dX8_isHad_19 (by decide) (fun c_19 => ?_) (fun c_19 => ?_)
  · refine V_iconst (v := 0) X (by decide) dX8_isHad_26 ?_
    exact V_zret X hr rfl dX8_isHad_27 (Or.inr (⟨rfl, rfl, bz_f c_19⟩))
  · refine V_iconst (v := 1) X (by decide) dX8_isHad_22 ?_
    refine V_goto X 27 dX8_isHad_23 (by decide) ?_
    exact V_zret X hr rfl dX8_isHad_27 (Or.inl ⟨rfl, rfl, bz_t c_19⟩)
