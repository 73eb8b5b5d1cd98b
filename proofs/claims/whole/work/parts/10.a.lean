set_option maxHeartbeats 4000000 in
set_option maxRecDepth 100000 in
/-- Cells.at, a place that is there -/
theorem c_X1_at (l : Launch) (D : va_G) (Y : Nat → ClassId) (a : Nat) (i : Int32) (k : Nat) (N : Nat) (f : Nat → Int32) (ti : i.toInt = ((k : Nat) : Int)) (hk : k < N) (hN : N < 2 ^ 31) : Mg l yX1_at wsX1_at ({ frames := 0, cells := 0, slots := 0, locals := 0 }) D Y [(a, .inl (Y 0, N, .inl f))] [.ref a, .int i] 0 0 (fun vv__ ww__ => (vv__ = some (.int (f k)) ∧ ww__ = [(a, .inl (Y 0, N, .inl f))])) := by
  refine Mg_of (cc := cX1_at) (maxL := 2) (ret := (some .int)) (ls0 := [(0, .ref a), (1, .int i)]) RX1 (by decide) rfl rfl rfl (Nat.le_of_ble_eq_true rfl) (fun p__ e__ s__ m__ b__ t__ c__ X hr hn => ?_)
  refine V_iload_n X 1 rfl dX1_at_0 ?_
  refine V_if_lt X ti 16 dX1_at_1 (by decide) (fun c_1 => False.elim (by omega)) (fun c_1 => ?_)
  refine V_iload_n X 1 rfl dX1_at_4 ?_
  refine V_aload_n X 0 rfl dX1_at_5 ?_
  refine V_alen (v := (nI N)) X 0 0 rfl rfl rfl dX1_at_6 ?_
  refine V_icmp_ge X ti (nI_toInt (by omega)) 16 dX1_at_7 (by decide) (fun c_7 => False.elim (by omega)) (fun c_7 => ?_)
  refine V_aload_n X 0 rfl dX1_at_10 ?_
  refine V_iload_n X 1 rfl dX1_at_11 ?_
  refine V_iald X 0 k rfl ti (by omega) dX1_at_12 ?_
  refine V_goto X 17 (by decide) dX1_at_13 ?_
  exact V_iret X hr dX1_at_17 (⟨rfl, rfl⟩)

set_option maxHeartbeats 4000000 in
set_option maxRecDepth 100000 in
/-- Cells.at, a place that is not there -/
theorem c_X1_at_out (l : Launch) (D : va_G) (Y : Nat → ClassId) (a : Nat) (i : Int32) (N : Nat) (f : Nat → Int32) (hk : i.toInt < 0 ∨ (N : Int) ≤ i.toInt) (hN : N < 2 ^ 31) : Mg l yX1_at wsX1_at ({ frames := 0, cells := 0, slots := 0, locals := 0 }) D Y [(a, .inl (Y 0, N, .inl f))] [.ref a, .int i] 0 0 (fun vv__ ww__ => (vv__ = some (.int (0 : Int32)) ∧ ww__ = [(a, .inl (Y 0, N, .inl f))])) := by
  refine Mg_of (cc := cX1_at) (maxL := 2) (ret := (some .int)) (ls0 := [(0, .ref a), (1, .int i)]) RX1 (by decide) rfl rfl rfl (Nat.le_of_ble_eq_true rfl) (fun p__ e__ s__ m__ b__ t__ c__ X hr hn => ?_)
  refine V_iload_n X 1 rfl dX1_at_0 ?_
  refine V_if_lt X rfl 16 dX1_at_1 (by decide) (fun c_1 => ?_) (fun c_1 => ?_)
  · refine V_iconst (v := (0 : Int32)) X (by decide) dX1_at_16 ?_
    exact V_iret X hr dX1_at_17 (⟨rfl, rfl⟩)
  · refine V_iload_n X 1 rfl dX1_at_4 ?_
    refine V_aload_n X 0 rfl dX1_at_5 ?_
    refine V_alen (v := (nI N)) X 0 0 rfl rfl rfl dX1_at_6 ?_
    refine V_icmp_ge X rfl (nI_toInt (by omega)) 16 dX1_at_7 (by decide) (fun c_7 => ?_) (fun c_7 => False.elim (by omega))
    refine V_iconst (v := (0 : Int32)) X (by decide) dX1_at_16 ?_
    exact V_iret X hr dX1_at_17 (⟨rfl, rfl⟩)

set_option maxHeartbeats 4000000 in
set_option maxRecDepth 100000 in
/-- Cells.set, a place that is there -/
theorem c_X1_set (l : Launch) (D : va_G) (Y : Nat → ClassId) (a : Nat) (i : Int32) (k : Nat) (v : Int32) (N : Nat) (f : Nat → Int32) (ti : i.toInt = ((k : Nat) : Int)) (hk : k < N) (hN : N < 2 ^ 31) : Mg l yX1_set wsX1_set ({ frames := 0, cells := 0, slots := 0, locals := 0 }) D Y [(a, .inl (Y 0, N, .inl f))] [.ref a, .int i, .int v] 0 0 (fun vv__ ww__ => (vv__ = none ∧ ww__ = [(a, .inl (Y 0, N, .inl (upd f k v)))])) := by
  refine Mg_of (cc := cX1_set) (maxL := 3) (ret := none) (ls0 := [(0, .ref a), (1, .int i), (2, .int v)]) RX1 (by decide) rfl rfl rfl (Nat.le_of_ble_eq_true rfl) (fun p__ e__ s__ m__ b__ t__ c__ X hr hn => ?_)
  refine V_iload_n X 1 rfl dX1_set_0 ?_
  refine V_if_lt X ti 14 dX1_set_1 (by decide) (fun c_1 => False.elim (by omega)) (fun c_1 => ?_)
  refine V_iload_n X 1 rfl dX1_set_4 ?_
  refine V_aload_n X 0 rfl dX1_set_5 ?_
  refine V_alen (v := (nI N)) X 0 0 rfl rfl rfl dX1_set_6 ?_
  refine V_icmp_ge X ti (nI_toInt (by omega)) 14 dX1_set_7 (by decide) (fun c_7 => False.elim (by omega)) (fun c_7 => ?_)
  refine V_aload_n X 0 rfl dX1_set_10 ?_
  refine V_iload_n X 1 rfl dX1_set_11 ?_
  refine V_iload_n X 2 rfl dX1_set_12 ?_
  refine V_iast (ws' := [(a, .inl (Y 0, N, .inl (upd f k v)))]) X 0 k rfl ti (by omega) rfl dX1_set_13 ?_
  exact V_vret X hr dX1_set_14 (⟨rfl, rfl⟩)

set_option maxHeartbeats 4000000 in
set_option maxRecDepth 100000 in
/-- Cells.set, a place that is not there -/
theorem c_X1_set_out (l : Launch) (D : va_G) (Y : Nat → ClassId) (a : Nat) (i : Int32) (v : Int32) (N : Nat) (f : Nat → Int32) (hk : i.toInt < 0 ∨ (N : Int) ≤ i.toInt) (hN : N < 2 ^ 31) : Mg l yX1_set wsX1_set ({ frames := 0, cells := 0, slots := 0, locals := 0 }) D Y [(a, .inl (Y 0, N, .inl f))] [.ref a, .int i, .int v] 0 0 (fun vv__ ww__ => (vv__ = none ∧ ww__ = [(a, .inl (Y 0, N, .inl f))])) := by
  refine Mg_of (cc := cX1_set) (maxL := 3) (ret := none) (ls0 := [(0, .ref a), (1, .int i), (2, .int v)]) RX1 (by decide) rfl rfl rfl (Nat.le_of_ble_eq_true rfl) (fun p__ e__ s__ m__ b__ t__ c__ X hr hn => ?_)
  refine V_iload_n X 1 rfl dX1_set_0 ?_
  refine V_if_lt X rfl 14 dX1_set_1 (by decide) (fun c_1 => ?_) (fun c_1 => ?_)
  · exact V_vret X hr dX1_set_14 (⟨rfl, rfl⟩)
  · refine V_iload_n X 1 rfl dX1_set_4 ?_
    refine V_aload_n X 0 rfl dX1_set_5 ?_
    refine V_alen (v := (nI N)) X 0 0 rfl rfl rfl dX1_set_6 ?_
    refine V_icmp_ge X rfl (nI_toInt (by omega)) 14 dX1_set_7 (by decide) (fun c_7 => ?_) (fun c_7 => False.elim (by omega))
    exact V_vret X hr dX1_set_14 (⟨rfl, rfl⟩)

set_option maxHeartbeats 4000000 in
set_option maxRecDepth 100000 in
theorem c_X10_isOf (l : Launch) (D : va_G) (Y : Nat → ClassId) (x : Int32) (y : Int32) : Mg l yX10_isOf wsX10_isOf ({ frames := 0, cells := 0, slots := 0, locals := 0 }) D Y [] [.int x, .int y] 0 0 (fun vv__ ww__ => (vv__ = some (.int (1 : Int32)) ∧ ww__ = [] ∧ (0 ≤ x.toInt ∧ x.toInt < y.toInt)) ∨ (vv__ = some (.int (0 : Int32)) ∧ ww__ = [] ∧ (¬ (0 ≤ x.toInt ∧ x.toInt < y.toInt)))) := by
  refine Mg_of (cc := cX10_isOf) (maxL := 2) (ret := (some .boolean)) (ls0 := [(0, .int x), (1, .int y)]) RX10 (by decide) rfl rfl rfl (Nat.le_of_ble_eq_true rfl) (fun p__ e__ s__ m__ b__ t__ c__ X hr hn => ?_)
  refine V_iload_n X 0 rfl dX10_isOf_0 ?_
  refine V_if_lt X rfl 13 dX10_isOf_1 (by decide) (fun c_1 => ?_) (fun c_1 => ?_)
  · refine V_iconst (v := (0 : Int32)) X (by decide) dX10_isOf_13 ?_
    exact V_zret X hr rfl dX10_isOf_14 (Or.inr (⟨rfl, rfl, (by omega)⟩))
  · refine V_iload_n X 0 rfl dX10_isOf_4 ?_
    refine V_iload_n X 1 rfl dX10_isOf_5 ?_
    refine V_icmp_ge X rfl rfl 13 dX10_isOf_6 (by decide) (fun c_6 => ?_) (fun c_6 => ?_)
    · refine V_iconst (v := (0 : Int32)) X (by decide) dX10_isOf_13 ?_
      exact V_zret X hr rfl dX10_isOf_14 (Or.inr (⟨rfl, rfl, (by omega)⟩))
    · refine V_iconst (v := (1 : Int32)) X (by decide) dX10_isOf_9 ?_
      refine V_goto X 14 (by decide) dX10_isOf_10 ?_
      exact V_zret X hr rfl dX10_isOf_14 (Or.inl ⟨rfl, rfl, (by omega)⟩)

theorem in_X8_size_X8 : ∀ w ∈ wsX80, w ∈ wsX8_size := fun w h => List.mem_cons_of_mem _ (List.mem_append_right _ h)
set_option maxHeartbeats 4000000 in
set_option maxRecDepth 100000 in
theorem c_X8_size (l : Launch) (D : va_G) (Y : Nat → ClassId) (o : Nat) (p : Nat) (h : Nat) (sa : Nat) (si : Nat) (z : Int32) : Mg l yX8_size wsX8_size ({ frames := 0, cells := 0, slots := 0, locals := 0 }) D Y [(o, .inr (7, [.ref p, .ref h, .ref sa, .ref si, .int z]))] [.ref o] 0 0 (fun vv__ ww__ => (vv__ = some (.int z) ∧ ww__ = [(o, .inr (7, [.ref p, .ref h, .ref sa, .ref si, .int z]))])) := by
  refine Mg_of (cc := cX8_size) (maxL := 1) (ret := (some .int)) (ls0 := [(0, .ref o)]) RX8 (by decide) rfl rfl rfl (Nat.le_of_ble_eq_true rfl) (fun p__ e__ s__ m__ b__ t__ c__ X hr hn => ?_)
  refine V_aload_n X 0 rfl dX8_size_0 ?_
  refine V_get (C := RX8) (T := TX8) (N := 5) (ci := 7) (v := .int z) X in_X8_size_X8 0 rfl rfl 4 (by decide) (List.mem_of_getElem? (i := 1) rfl) rfl rfl dX8_size_1 ?_
  exact V_iret X hr dX8_size_4 (⟨rfl, rfl⟩)

theorem in_X8_isFull_X8 : ∀ w ∈ wsX80, w ∈ wsX8_isFull := fun w h => List.mem_cons_of_mem _ (List.mem_append_right _ h)
set_option maxHeartbeats 4000000 in
set_option maxRecDepth 100000 in
theorem c_X8_isFull (l : Launch) (D : va_G) (Y : Nat → ClassId) (o : Nat) (p : Nat) (h : Nat) (sa : Nat) (si : Nat) (z : Int32) : Mg l yX8_isFull wsX8_isFull ({ frames := 0, cells := 0, slots := 0, locals := 0 }) D Y [(o, .inr (7, [.ref p, .ref h, .ref sa, .ref si, .int z]))] [.ref o] 0 0 (fun vv__ ww__ => (vv__ = some (.int (1 : Int32)) ∧ ww__ = [(o, .inr (7, [.ref p, .ref h, .ref sa, .ref si, .int z]))] ∧ (12 ≤ z.toInt)) ∨ (vv__ = some (.int (0 : Int32)) ∧ ww__ = [(o, .inr (7, [.ref p, .ref h, .ref sa, .ref si, .int z]))] ∧ (z.toInt < 12))) := by
  refine Mg_of (cc := cX8_isFull) (maxL := 1) (ret := (some .boolean)) (ls0 := [(0, .ref o)]) RX8 (by decide) rfl rfl rfl (Nat.le_of_ble_eq_true rfl) (fun p__ e__ s__ m__ b__ t__ c__ X hr hn => ?_)
  refine V_aload_n X 0 rfl dX8_isFull_0 ?_
  refine V_get (C := RX8) (T := TX8) (N := 5) (ci := 7) (v := .int z) X in_X8_isFull_X8 0 rfl rfl 4 (by decide) (List.mem_of_getElem? (i := 1) rfl) rfl rfl dX8_isFull_1 ?_
  refine V_bipush (v := (12 : Int32)) X (by decide) dX8_isFull_4 ?_
  refine V_icmp_lt X rfl (show (12 : Int32).toInt = 12 from by decide) 13 dX8_isFull_6 (by decide) (fun c_6 => ?_) (fun c_6 => ?_)
  · refine V_iconst (v := (0 : Int32)) X (by decide) dX8_isFull_13 ?_
    exact V_zret X hr rfl dX8_isFull_14 (Or.inr (⟨rfl, rfl, c_6⟩))
  · refine V_iconst (v := (1 : Int32)) X (by decide) dX8_isFull_9 ?_
    refine V_goto X 14 (by decide) dX8_isFull_10 ?_
    exact V_zret X hr rfl dX8_isFull_14 (Or.inl ⟨rfl, rfl, c_6⟩)

theorem in_X8_isLine_X8 : ∀ w ∈ wsX80, w ∈ wsX8_isLine := fun w h => List.mem_cons_of_mem _ (List.mem_append_right _ h)
set_option maxHeartbeats 4000000 in
set_option maxRecDepth 100000 in
theorem c_X8_isLine (l : Launch) (D : va_G) (Y : Nat → ClassId) (o : Nat) (x : Int32) (p : Nat) (h : Nat) (sa : Nat) (si : Nat) (z : Int32) : Mg l yX8_isLine wsX8_isLine ({ frames := 0, cells := 0, slots := 0, locals := 0 }) D Y [(o, .inr (7, [.ref p, .ref h, .ref sa, .ref si, .int z]))] [.ref o, .int x] 0 0 (fun vv__ ww__ => (vv__ = some (.int (1 : Int32)) ∧ ww__ = [(o, .inr (7, [.ref p, .ref h, .ref sa, .ref si, .int z]))] ∧ (0 ≤ x.toInt ∧ x.toInt < z.toInt)) ∨ (vv__ = some (.int (0 : Int32)) ∧ ww__ = [(o, .inr (7, [.ref p, .ref h, .ref sa, .ref si, .int z]))] ∧ (¬ (0 ≤ x.toInt ∧ x.toInt < z.toInt)))) := by
  refine Mg_of (cc := cX8_isLine) (maxL := 2) (ret := (some .boolean)) (ls0 := [(0, .ref o), (1, .int x)]) RX8 (by decide) rfl rfl rfl (Nat.le_of_ble_eq_true rfl) (fun p__ e__ s__ m__ b__ t__ c__ X hr hn => ?_)
  refine V_iload_n X 1 rfl dX8_isLine_0 ?_
  refine V_if_lt X rfl 16 dX8_isLine_1 (by decide) (fun c_1 => ?_) (fun c_1 => ?_)
  · refine V_iconst (v := (0 : Int32)) X (by decide) dX8_isLine_16 ?_
    exact V_zret X hr rfl dX8_isLine_17 (Or.inr (⟨rfl, rfl, (by omega)⟩))
  · refine V_iload_n X 1 rfl dX8_isLine_4 ?_
    refine V_aload_n X 0 rfl dX8_isLine_5 ?_
    refine V_get (C := RX8) (T := TX8) (N := 5) (ci := 7) (v := .int z) X in_X8_isLine_X8 0 rfl rfl 4 (by decide) (List.mem_of_getElem? (i := 1) rfl) rfl rfl dX8_isLine_6 ?_
    refine V_icmp_ge X rfl rfl 16 dX8_isLine_9 (by decide) (fun c_9 => ?_) (fun c_9 => ?_)
    · refine V_iconst (v := (0 : Int32)) X (by decide) dX8_isLine_16 ?_
      exact V_zret X hr rfl dX8_isLine_17 (Or.inr (⟨rfl, rfl, (by omega)⟩))
    · refine V_iconst (v := (1 : Int32)) X (by decide) dX8_isLine_12 ?_
      refine V_goto X 17 (by decide) dX8_isLine_13 ?_
      exact V_zret X hr rfl dX8_isLine_17 (Or.inl ⟨rfl, rfl, (by omega)⟩)

theorem in_X8_part_X8 : ∀ w ∈ wsX80, w ∈ wsX8_part := fun w h => List.mem_cons_of_mem _ (List.mem_append_right _ h)
set_option maxHeartbeats 4000000 in
set_option maxRecDepth 100000 in
theorem c_X8_part (l : Launch) (D : va_G) (Y : Nat → ClassId) (o : Nat) (p : Nat) (h : Nat) (sa : Nat) (si : Nat) (z : Int32) (x : Int32) (l_ : Nat) (y : Int32) (w : Nat) (fp : Nat → Int32) (tx : x.toInt = ((l_ : Nat) : Int)) (ty : y.toInt = ((w : Nat) : Int)) (hl : l_ < 12) (hw : w < 3) : Mg l yX8_part wsX8_part ({ frames := 1, cells := 0, slots := 0, locals := 21 }) D Y [(o, .inr (7, [.ref p, .ref h, .ref sa, .ref si, .int z])), (p, .inl (Y 0, 36, .inl fp))] [.ref o, .int x, .int y] 0 0 (fun vv__ ww__ => (vv__ = some (.int (fp (3 * l_ + w))) ∧ ww__ = [(o, .inr (7, [.ref p, .ref h, .ref sa, .ref si, .int z])), (p, .inl (Y 0, 36, .inl fp))])) := by
  refine Mg_of (cc := cX8_part) (maxL := 3) (ret := (some .int)) (ls0 := [(0, .ref o), (1, .int x), (2, .int y)]) RX8 (by decide) rfl rfl rfl (Nat.le_of_ble_eq_true rfl) (fun p__ e__ s__ m__ b__ t__ c__ X hr hn => ?_)
  refine V_aload_n X 0 rfl dX8_part_0 ?_
  refine V_get (C := RX8) (T := TX8) (N := 5) (ci := 7) (v := .ref p) X in_X8_part_X8 0 rfl rfl 0 (by decide) (List.mem_of_getElem? (i := 1) rfl) rfl rfl dX8_part_1 ?_
  refine V_iconst (v := (3 : Int32)) X (by decide) dX8_part_4 ?_
  refine V_iload_n X 1 rfl dX8_part_5 ?_
  refine V_imulZ X (show (3 : Int32).toInt = 3 from by decide) tx (by omega) (by omega) dX8_part_6 (fun x_1 ex_1 tx_1 => ?_)
  have tx_1 : x_1.toInt = (((3 * l_) : Nat) : Int) := by omega
  refine V_iload_n X 2 rfl dX8_part_7 ?_
  refine V_iaddZ X tx_1 ty (by omega) (by omega) dX8_part_8 (fun x_2 ex_2 tx_2 => ?_)
  have tx_2 : x_2.toInt = ((((3 * l_) + w) : Nat) : Int) := by omega
  refine V_callS (wr := [(o, .inr (7, [.ref p, .ref h, .ref sa, .ref si, .int z]))]) (st := []) X (c_X1_at l D Y p x_2 ((3 * l_) + w) 36 fp tx_2 (by omega) (by omega)) 2 gX8_part_X1_at rfl (by decide +kernel) ⟨rfl, rfl⟩ ⟨Nat.le_of_ble_eq_true rfl, Nat.le_of_ble_eq_true rfl⟩ [1] [0] rfl rfl rfl rfl (by decide) rfl rfl (Nat.le_of_ble_eq_true rfl) ⟨Nat.le_of_ble_eq_true rfl, Nat.le_of_ble_eq_true rfl⟩ dX8_part_9 (fun v_9 w_9 h_9 => ?_)
  obtain ⟨rfl, rfl⟩ := h_9
  refine V_to (pc' := 12) (ls' := [(0, .ref o), (1, .int x), (2, .int y)]) (st' := [.int (fp ((3 * l_) + w))]) (ws' := [(o, .inr (7, [.ref p, .ref h, .ref sa, .ref si, .int z])), (p, .inl (Y 0, 36, .inl fp))]) ?_ rfl rfl rfl rfl
  exact V_iret X hr dX8_part_12 (⟨(by first | rfl | (congr 2)), rfl⟩)

theorem in_X8_setPart_X8 : ∀ w ∈ wsX80, w ∈ wsX8_setPart := fun w h => List.mem_cons_of_mem _ (List.mem_append_right _ h)
set_option maxHeartbeats 4000000 in
set_option maxRecDepth 100000 in
theorem c_X8_setPart (l : Launch) (D : va_G) (Y : Nat → ClassId) (o : Nat) (p : Nat) (h : Nat) (sa : Nat) (si : Nat) (z : Int32) (x : Int32) (l_ : Nat) (y : Int32) (w : Nat) (v : Int32) (fp : Nat → Int32) (tx : x.toInt = ((l_ : Nat) : Int)) (ty : y.toInt = ((w : Nat) : Int)) (hl : l_ < 12) (hw : w < 3) : Mg l yX8_setPart wsX8_setPart ({ frames := 1, cells := 0, slots := 0, locals := 22 }) D Y [(o, .inr (7, [.ref p, .ref h, .ref sa, .ref si, .int z])), (p, .inl (Y 0, 36, .inl fp))] [.ref o, .int x, .int y, .int v] 0 0 (fun vv__ ww__ => (vv__ = none ∧ ww__ = [(o, .inr (7, [.ref p, .ref h, .ref sa, .ref si, .int z])), (p, .inl (Y 0, 36, .inl (upd fp (3 * l_ + w) v)))])) := by
  refine Mg_of (cc := cX8_setPart) (maxL := 4) (ret := none) (ls0 := [(0, .ref o), (1, .int x), (2, .int y), (3, .int v)]) RX8 (by decide) rfl rfl rfl (Nat.le_of_ble_eq_true rfl) (fun p__ e__ s__ m__ b__ t__ c__ X hr hn => ?_)
  refine V_aload_n X 0 rfl dX8_setPart_0 ?_
  refine V_get (C := RX8) (T := TX8) (N := 5) (ci := 7) (v := .ref p) X in_X8_setPart_X8 0 rfl rfl 0 (by decide) (List.mem_of_getElem? (i := 1) rfl) rfl rfl dX8_setPart_1 ?_
  refine V_iconst (v := (3 : Int32)) X (by decide) dX8_setPart_4 ?_
  refine V_iload_n X 1 rfl dX8_setPart_5 ?_
  refine V_imulZ X (show (3 : Int32).toInt = 3 from by decide) tx (by omega) (by omega) dX8_setPart_6 (fun x_1 ex_1 tx_1 => ?_)
  have tx_1 : x_1.toInt = (((3 * l_) : Nat) : Int) := by omega
  refine V_iload_n X 2 rfl dX8_setPart_7 ?_
  refine V_iaddZ X tx_1 ty (by omega) (by omega) dX8_setPart_8 (fun x_2 ex_2 tx_2 => ?_)
  have tx_2 : x_2.toInt = ((((3 * l_) + w) : Nat) : Int) := by omega
  refine V_iload_n X 3 rfl dX8_setPart_9 ?_
  refine V_callS (wr := [(o, .inr (7, [.ref p, .ref h, .ref sa, .ref si, .int z]))]) (st := []) X (c_X1_set l D Y p x_2 ((3 * l_) + w) v 36 fp tx_2 (by omega) (by omega)) 3 gX8_setPart_X1_set rfl (by decide +kernel) ⟨rfl, rfl⟩ ⟨Nat.le_of_ble_eq_true rfl, Nat.le_of_ble_eq_true rfl⟩ [1] [0] rfl rfl rfl rfl (by decide) rfl rfl (Nat.le_of_ble_eq_true rfl) ⟨Nat.le_of_ble_eq_true rfl, Nat.le_of_ble_eq_true rfl⟩ dX8_setPart_10 (fun v_10 w_10 h_10 => ?_)
  obtain ⟨rfl, rfl⟩ := h_10
  refine V_to (pc' := 13) (ls' := [(0, .ref o), (1, .int x), (2, .int y), (3, .int v)]) (st' := []) (ws' := [(o, .inr (7, [.ref p, .ref h, .ref sa, .ref si, .int z])), (p, .inl (Y 0, 36, .inl (upd fp ((3 * l_) + w) v)))]) ?_ rfl rfl rfl rfl
  exact V_vret X hr dX8_setPart_13 (⟨rfl, rfl⟩)

set_option maxHeartbeats 4000000 in
set_option maxRecDepth 100000 in
theorem c_X8_singerOf (l : Launch) (D : va_G) (Y : Nat → ClassId) (b : Int32) (bn : Nat) (tb : b.toInt = ((bn : Nat) : Int)) : Mg l yX8_singerOf wsX8_singerOf ({ frames := 0, cells := 0, slots := 0, locals := 0 }) D Y [] [.int b] 0 0 (fun vv__ ww__ => (∃ (r : Int32), vv__ = some (.int r) ∧ ww__ = [] ∧ (r.toInt = ((bn / 24 : Nat) : Int)))) := by
  refine Mg_of (cc := cX8_singerOf) (maxL := 1) (ret := (some .int)) (ls0 := [(0, .int b)]) RX8 (by decide) rfl rfl rfl (Nat.le_of_ble_eq_true rfl) (fun p__ e__ s__ m__ b__ t__ c__ X hr hn => ?_)
  refine V_iload_n X 0 rfl dX8_singerOf_0 ?_
  refine V_bipush (v := (24 : Int32)) X (by decide) dX8_singerOf_1 ?_
  refine V_idivZ X tb (show (24 : Int32).toInt = 24 from by decide) (by omega) (by omega) dX8_singerOf_3 (fun x_1 ex_1 tx_1 => ?_)
  have tx_1 : x_1.toInt = (((bn / 24) : Nat) : Int) := by omega
  exact V_iret X hr dX8_singerOf_4 (⟨x_1, rfl, rfl, (by have h9 : x_1.toInt = (((bn / 24) : Nat) : Int) := tx_1; omega)⟩)

set_option maxHeartbeats 4000000 in
set_option maxRecDepth 100000 in
theorem c_X8_lineOf (l : Launch) (D : va_G) (Y : Nat → ClassId) (b : Int32) (bn : Nat) (tb : b.toInt = ((bn : Nat) : Int)) : Mg l yX8_lineOf wsX8_lineOf ({ frames := 0, cells := 0, slots := 0, locals := 0 }) D Y [] [.int b] 0 0 (fun vv__ ww__ => (∃ (r : Int32), vv__ = some (.int r) ∧ ww__ = [] ∧ (r.toInt = ((bn / 2 % 12 : Nat) : Int)))) := by
  refine Mg_of (cc := cX8_lineOf) (maxL := 1) (ret := (some .int)) (ls0 := [(0, .int b)]) RX8 (by decide) rfl rfl rfl (Nat.le_of_ble_eq_true rfl) (fun p__ e__ s__ m__ b__ t__ c__ X hr hn => ?_)
  refine V_iload_n X 0 rfl dX8_lineOf_0 ?_
  refine V_iconst (v := (2 : Int32)) X (by decide) dX8_lineOf_1 ?_
  refine V_idivZ X tb (show (2 : Int32).toInt = 2 from by decide) (by omega) (by omega) dX8_lineOf_2 (fun x_1 ex_1 tx_1 => ?_)
  have tx_1 : x_1.toInt = (((bn / 2) : Nat) : Int) := by omega
  refine V_bipush (v := (12 : Int32)) X (by decide) dX8_lineOf_3 ?_
  refine V_iremZ X tx_1 (show (12 : Int32).toInt = 12 from by decide) (by omega) (by omega) dX8_lineOf_5 (fun x_2 ex_2 tx_2 => ?_)
  have tx_2 : x_2.toInt = ((((bn / 2) % 12) : Nat) : Int) := by omega
  exact V_iret X hr dX8_lineOf_6 (⟨x_2, rfl, rfl, (by have h9 : x_2.toInt = ((((bn / 2) % 12) : Nat) : Int) := tx_2; omega)⟩)

set_option maxHeartbeats 4000000 in
set_option maxRecDepth 100000 in
theorem c_X8_whichOf (l : Launch) (D : va_G) (Y : Nat → ClassId) (b : Int32) (bn : Nat) (tb : b.toInt = ((bn : Nat) : Int)) : Mg l yX8_whichOf wsX8_whichOf ({ frames := 0, cells := 0, slots := 0, locals := 0 }) D Y [] [.int b] 0 0 (fun vv__ ww__ => (∃ (r : Int32), vv__ = some (.int r) ∧ ww__ = [] ∧ (r.toInt = ((bn % 2 : Nat) : Int)))) := by
  refine Mg_of (cc := cX8_whichOf) (maxL := 1) (ret := (some .int)) (ls0 := [(0, .int b)]) RX8 (by decide) rfl rfl rfl (Nat.le_of_ble_eq_true rfl) (fun p__ e__ s__ m__ b__ t__ c__ X hr hn => ?_)
  refine V_iload_n X 0 rfl dX8_whichOf_0 ?_
  refine V_iconst (v := (2 : Int32)) X (by decide) dX8_whichOf_1 ?_
  refine V_iremZ X tb (show (2 : Int32).toInt = 2 from by decide) (by omega) (by omega) dX8_whichOf_2 (fun x_1 ex_1 tx_1 => ?_)
  have tx_1 : x_1.toInt = (((bn % 2) : Nat) : Int) := by omega
  exact V_iret X hr dX8_whichOf_3 (⟨x_1, rfl, rfl, (by have h9 : x_1.toInt = (((bn % 2) : Nat) : Int) := tx_1; omega)⟩)

set_option maxHeartbeats 4000000 in
set_option maxRecDepth 100000 in
theorem c_X8_bit (l : Launch) (D : va_G) (Y : Nat → ClassId) (q : Int32) (pn : Nat) (x : Int32) (l_ : Nat) (y : Int32) (w : Nat) (tq : q.toInt = ((pn : Nat) : Int)) (tx : x.toInt = ((l_ : Nat) : Int)) (ty : y.toInt = ((w : Nat) : Int)) (hl : l_ < 12) (hp : pn < 4) (hw : w < 2) : Mg l yX8_bit wsX8_bit ({ frames := 0, cells := 0, slots := 0, locals := 0 }) D Y [] [.int q, .int x, .int y] 0 0 (fun vv__ ww__ => (∃ (r : Int32), vv__ = some (.int r) ∧ ww__ = [] ∧ (r.toInt = ((24 * pn + 2 * l_ + w : Nat) : Int)))) := by
  refine Mg_of (cc := cX8_bit) (maxL := 3) (ret := (some .int)) (ls0 := [(0, .int q), (1, .int x), (2, .int y)]) RX8 (by decide) rfl rfl rfl (Nat.le_of_ble_eq_true rfl) (fun p__ e__ s__ m__ b__ t__ c__ X hr hn => ?_)
  refine V_iload_n X 0 rfl dX8_bit_0 ?_
  refine V_bipush (v := (12 : Int32)) X (by decide) dX8_bit_1 ?_
  refine V_imulZ X tq (show (12 : Int32).toInt = 12 from by decide) (by omega) (by omega) dX8_bit_3 (fun x_1 ex_1 tx_1 => ?_)
  have tx_1 : x_1.toInt = (((pn * 12) : Nat) : Int) := by omega
  refine V_iload_n X 1 rfl dX8_bit_4 ?_
  refine V_iaddZ X tx_1 tx (by omega) (by omega) dX8_bit_5 (fun x_2 ex_2 tx_2 => ?_)
  have tx_2 : x_2.toInt = ((((pn * 12) + l_) : Nat) : Int) := by omega
  refine V_iconst (v := (2 : Int32)) X (by decide) dX8_bit_6 ?_
  refine V_imulZ X tx_2 (show (2 : Int32).toInt = 2 from by decide) (by omega) (by omega) dX8_bit_7 (fun x_3 ex_3 tx_3 => ?_)
  have tx_3 : x_3.toInt = (((((pn * 12) + l_) * 2) : Nat) : Int) := by omega
  refine V_iload_n X 2 rfl dX8_bit_8 ?_
  refine V_iaddZ X tx_3 ty (by omega) (by omega) dX8_bit_9 (fun x_4 ex_4 tx_4 => ?_)
  have tx_4 : x_4.toInt = ((((((pn * 12) + l_) * 2) + w) : Nat) : Int) := by omega
  exact V_iret X hr dX8_bit_10 (⟨x_4, rfl, rfl, (by have h9 : x_4.toInt = ((((((pn * 12) + l_) * 2) + w) : Nat) : Int) := tx_4; omega)⟩)

theorem in_X8_isHad_X8 : ∀ w ∈ wsX80, w ∈ wsX8_isHad := fun w h => List.mem_cons_of_mem _ (List.mem_append_right _ h)
set_option maxHeartbeats 4000000 in
set_option maxRecDepth 100000 in
theorem c_X8_isHad (l : Launch) (D : va_G) (Y : Nat → ClassId) (o : Nat) (p : Nat) (h : Nat) (sa : Nat) (si : Nat) (z : Int32) (b : Int32) (bn : Nat) (fh : Nat → Int32) (B : Nat → Bool) (hH : HV fh B) (tb : b.toInt = ((bn : Nat) : Int)) (hb : bn < 96) : Mg l yX8_isHad wsX8_isHad ({ frames := 1, cells := 0, slots := 0, locals := 21 }) D Y [(o, .inr (7, [.ref p, .ref h, .ref sa, .ref si, .int z])), (h, .inl (Y 0, 24, .inl fh))] [.ref o, .int b] 0 0 (fun vv__ ww__ => (vv__ = some (.int (1 : Int32)) ∧ ww__ = [(o, .inr (7, [.ref p, .ref h, .ref sa, .ref si, .int z])), (h, .inl (Y 0, 24, .inl fh))] ∧ (B bn = true)) ∨ (vv__ = some (.int (0 : Int32)) ∧ ww__ = [(o, .inr (7, [.ref p, .ref h, .ref sa, .ref si, .int z])), (h, .inl (Y 0, 24, .inl fh))] ∧ (B bn = false))) := by
  refine Mg_of (cc := cX8_isHad) (maxL := 2) (ret := (some .boolean)) (ls0 := [(0, .ref o), (1, .int b)]) RX8 (by decide) rfl rfl rfl (Nat.le_of_ble_eq_true rfl) (fun p__ e__ s__ m__ b__ t__ c__ X hr hn => ?_)
  refine V_aload_n X 0 rfl dX8_isHad_0 ?_
  refine V_get (C := RX8) (T := TX8) (N := 5) (ci := 7) (v := .ref h) X in_X8_isHad_X8 0 rfl rfl 1 (by decide) (List.mem_of_getElem? (i := 1) rfl) rfl rfl dX8_isHad_1 ?_
  refine V_iload_n X 1 rfl dX8_isHad_4 ?_
  refine V_bipush (v := (24 : Int32)) X (by decide) dX8_isHad_5 ?_
  refine V_iremZ X tb (show (24 : Int32).toInt = 24 from by decide) (by omega) (by omega) dX8_isHad_7 (fun x_1 ex_1 tx_1 => ?_)
  have tx_1 : x_1.toInt = (((bn % 24) : Nat) : Int) := by omega
  refine V_callS (wr := [(o, .inr (7, [.ref p, .ref h, .ref sa, .ref si, .int z]))]) (st := []) X (c_X1_at l D Y h x_1 (bn % 24) 24 fh tx_1 (by omega) (by omega)) 2 gX8_isHad_X1_at rfl (by decide +kernel) ⟨rfl, rfl⟩ ⟨Nat.le_of_ble_eq_true rfl, Nat.le_of_ble_eq_true rfl⟩ [1] [0] rfl rfl rfl rfl (by decide) rfl rfl (Nat.le_of_ble_eq_true rfl) ⟨Nat.le_of_ble_eq_true rfl, Nat.le_of_ble_eq_true rfl⟩ dX8_isHad_8 (fun v_8 w_8 h_8 => ?_)
  obtain ⟨rfl, rfl⟩ := h_8
  refine V_to (pc' := 11) (ls' := [(0, .ref o), (1, .int b)]) (st' := [.int (fh (bn % 24))]) (ws' := [(o, .inr (7, [.ref p, .ref h, .ref sa, .ref si, .int z])), (h, .inl (Y 0, 24, .inl fh))]) ?_ rfl rfl rfl rfl
  refine V_iload_n X 1 rfl dX8_isHad_11 ?_
  refine V_callS (wr := [(o, .inr (7, [.ref p, .ref h, .ref sa, .ref si, .int z])), (h, .inl (Y 0, 24, .inl fh))]) (st := [.int (fh (bn % 24))]) X (c_X8_singerOf l D Y b bn tb) 1 gX8_isHad_X8_singerOf rfl (by decide +kernel) ⟨rfl, rfl⟩ ⟨Nat.le_of_ble_eq_true rfl, Nat.le_of_ble_eq_true rfl⟩ [] [0, 1] rfl rfl rfl rfl (by decide) rfl rfl (Nat.le_of_ble_eq_true rfl) ⟨Nat.le_of_ble_eq_true rfl, Nat.le_of_ble_eq_true rfl⟩ dX8_isHad_12 (fun v_12 w_12 h_12 => ?_)
  obtain ⟨r_4, rfl, rfl, htr_5⟩ := h_12
  refine V_to (pc' := 15) (ls' := [(0, .ref o), (1, .int b)]) (st' := [.int r_4, .int (fh (bn % 24))]) (ws' := [(o, .inr (7, [.ref p, .ref h, .ref sa, .ref si, .int z])), (h, .inl (Y 0, 24, .inl fh))]) ?_ rfl rfl rfl rfl
  refine V_ishr X dX8_isHad_15 (fun x_6 ex_6 => ?_)
  refine V_iconst (v := (1 : Int32)) X (by decide) dX8_isHad_16 ?_
  refine V_iand X dX8_isHad_17 (fun x_7 ex_7 => ?_)
  have tx_7 : x_7.toInt = bz (B bn) := (HV_at hH hb) ▸ (b_pick ex_7 ex_6 htr_5 (by omega))
  refine V_iconst (v := (1 : Int32)) X (by decide) dX8_isHad_18 ?_
  refine V_icmp_ne X tx_7 (show (1 : Int32).toInt = 1 from by decide) 26 dX8_isHad_19 (by decide) (fun c_19 => ?_) (fun c_19 => ?_)
  · refine V_iconst (v := (0 : Int32)) X (by decide) dX8_isHad_26 ?_
    exact V_zret X hr rfl dX8_isHad_27 (Or.inr (⟨rfl, rfl, bz_f c_19⟩))
  · refine V_iconst (v := (1 : Int32)) X (by decide) dX8_isHad_22 ?_
    refine V_goto X 27 (by decide) dX8_isHad_23 ?_
    exact V_zret X hr rfl dX8_isHad_27 (Or.inl ⟨rfl, rfl, bz_t c_19⟩)

theorem in_X8_setHad_X8 : ∀ w ∈ wsX80, w ∈ wsX8_setHad := fun w h => List.mem_cons_of_mem _ (List.mem_append_right _ h)
set_option maxHeartbeats 4000000 in
set_option maxRecDepth 100000 in
theorem c_X8_setHad (l : Launch) (D : va_G) (Y : Nat → ClassId) (o : Nat) (p : Nat) (h : Nat) (sa : Nat) (si : Nat) (z : Int32) (b : Int32) (bn : Nat) (hv : Int32) (vb : Bool) (fh : Nat → Int32) (B : Nat → Bool) (hH : HV fh B) (tb : b.toInt = ((bn : Nat) : Int)) (hb : bn < 96) (thv : hv.toInt = bz vb) : Mg l yX8_setHad wsX8_setHad ({ frames := 1, cells := 0, slots := 0, locals := 22 }) D Y [(o, .inr (7, [.ref p, .ref h, .ref sa, .ref si, .int z])), (h, .inl (Y 0, 24, .inl fh))] [.ref o, .int b, .int hv] 0 0 (fun vv__ ww__ => (∃ (fh2 : Nat → Int32), vv__ = none ∧ ww__ = [(o, .inr (7, [.ref p, .ref h, .ref sa, .ref si, .int z])), (h, .inl (Y 0, 24, .inl fh2))] ∧ (HV fh2 (upB B bn vb)))) := by
  refine Mg_of (cc := cX8_setHad) (maxL := 6) (ret := none) (ls0 := [(0, .ref o), (1, .int b), (2, .int hv)]) RX8 (by decide) rfl rfl rfl (Nat.le_of_ble_eq_true rfl) (fun p__ e__ s__ m__ b__ t__ c__ X hr hn => ?_)
  refine V_iload_n X 1 rfl dX8_setHad_0 ?_
  refine V_bipush (v := (24 : Int32)) X (by decide) dX8_setHad_1 ?_
  refine V_iremZ X tb (show (24 : Int32).toInt = 24 from by decide) (by omega) (by omega) dX8_setHad_3 (fun x_1 ex_1 tx_1 => ?_)
  have tx_1 : x_1.toInt = (((bn % 24) : Nat) : Int) := by omega
  refine V_istore_n (ls' := [(3, .int x_1), (0, .ref o), (1, .int b), (2, .int hv)]) X (by decide) rfl dX8_setHad_4 ?_
  refine V_iconst (v := (1 : Int32)) X (by decide) dX8_setHad_5 ?_
  refine V_iload_n X 2 rfl dX8_setHad_6 ?_
  refine V_callS (wr := [(o, .inr (7, [.ref p, .ref h, .ref sa, .ref si, .int z])), (h, .inl (Y 0, 24, .inl fh))]) (st := [.int (1 : Int32)]) X (c_X8_singerOf l D Y b bn tb) 1 gX8_setHad_X8_singerOf rfl (by decide +kernel) ⟨rfl, rfl⟩ ⟨Nat.le_of_ble_eq_true rfl, Nat.le_of_ble_eq_true rfl⟩ [] [0, 1] rfl rfl rfl rfl (by decide) rfl rfl (Nat.le_of_ble_eq_true rfl) ⟨Nat.le_of_ble_eq_true rfl, Nat.le_of_ble_eq_true rfl⟩ dX8_setHad_7 (fun v_7 w_7 h_7 => ?_)
  obtain ⟨r_3, rfl, rfl, htr_4⟩ := h_7
  refine V_to (pc' := 10) (ls' := [(3, .int x_1), (0, .ref o), (1, .int b), (2, .int hv)]) (st' := [.int r_3, .int (1 : Int32)]) (ws' := [(o, .inr (7, [.ref p, .ref h, .ref sa, .ref si, .int z])), (h, .inl (Y 0, 24, .inl fh))]) ?_ rfl rfl rfl rfl
  refine V_ishl X dX8_setHad_10 (fun x_5 ex_5 => ?_)
  have hone : ∀ i, i < 32 → bt x_5 i = decide (i = bn / 24) := fun i hi => b_one ex_5 htr_4 (by omega) hi
  refine V_istore (ls' := [(4, .int x_5), (3, .int x_1), (0, .ref o), (1, .int b), (2, .int hv)]) X (by decide) rfl dX8_setHad_11 ?_
  refine V_aload_n X 2 rfl dX8_setHad_13 ?_
  refine V_get (C := RX8) (T := TX8) (N := 5) (ci := 7) (v := .ref h) X in_X8_setHad_X8 0 rfl rfl 1 (by decide) (List.mem_of_getElem? (i := 1) rfl) rfl rfl dX8_setHad_14 ?_
  refine V_iload_n X 1 rfl dX8_setHad_17 ?_
  refine V_callS (wr := [(o, .inr (7, [.ref p, .ref h, .ref sa, .ref si, .int z]))]) (st := []) X (c_X1_at l D Y h x_1 (bn % 24) 24 fh tx_1 (by omega) (by omega)) 2 gX8_setHad_X1_at rfl (by decide +kernel) ⟨rfl, rfl⟩ ⟨Nat.le_of_ble_eq_true rfl, Nat.le_of_ble_eq_true rfl⟩ [1] [0] rfl rfl rfl rfl (by decide) rfl rfl (Nat.le_of_ble_eq_true rfl) ⟨Nat.le_of_ble_eq_true rfl, Nat.le_of_ble_eq_true rfl⟩ dX8_setHad_18 (fun v_18 w_18 h_18 => ?_)
  obtain ⟨rfl, rfl⟩ := h_18
  refine V_to (pc' := 21) (ls' := [(4, .int x_5), (3, .int x_1), (0, .ref o), (1, .int b), (2, .int hv)]) (st' := [.int (fh (bn % 24))]) (ws' := [(o, .inr (7, [.ref p, .ref h, .ref sa, .ref si, .int z])), (h, .inl (Y 0, 24, .inl fh))]) ?_ rfl rfl rfl rfl
  refine V_iload X 0 rfl dX8_setHad_21 ?_
  refine V_iconst (v := (-1 : Int32)) X (by decide) dX8_setHad_23 ?_
  refine V_ixor X dX8_setHad_24 (fun x_7 ex_7 => ?_)
  refine V_iand X dX8_setHad_25 (fun x_8 ex_8 => ?_)
  have hclr : ∀ i, i < 32 → bt x_8 i = (bt (fh (bn % 24)) i && !decide (i = bn / 24)) := fun i hi => b_clear hone ex_7 ex_8 hi
  refine V_istore (ls' := [(5, .int x_8), (4, .int x_5), (3, .int x_1), (0, .ref o), (1, .int b), (2, .int hv)]) X (by decide) rfl dX8_setHad_26 ?_
  refine V_aload_n X 3 rfl dX8_setHad_28 ?_
  refine V_get (C := RX8) (T := TX8) (N := 5) (ci := 7) (v := .ref h) X in_X8_setHad_X8 0 rfl rfl 1 (by decide) (List.mem_of_getElem? (i := 1) rfl) rfl rfl dX8_setHad_29 ?_
  refine V_iload_n X 2 rfl dX8_setHad_32 ?_
  refine V_iload_n X 5 rfl dX8_setHad_33 ?_
  refine V_if_eq X thv 45 dX8_setHad_34 (by decide) (fun c_34 => ?_) (fun c_34 => ?_)
  · refine V_iload X 0 rfl dX8_setHad_45 ?_
    refine V_callS (wr := [(o, .inr (7, [.ref p, .ref h, .ref sa, .ref si, .int z]))]) (st := []) X (c_X1_set l D Y h x_1 (bn % 24) x_8 24 fh tx_1 (by omega) (by omega)) 3 gX8_setHad_X1_set rfl (by decide +kernel) ⟨rfl, rfl⟩ ⟨Nat.le_of_ble_eq_true rfl, Nat.le_of_ble_eq_true rfl⟩ [1] [0] rfl rfl rfl rfl (by decide) rfl rfl (Nat.le_of_ble_eq_true rfl) ⟨Nat.le_of_ble_eq_true rfl, Nat.le_of_ble_eq_true rfl⟩ dX8_setHad_47 (fun v_47 w_47 h_47 => ?_)
    obtain ⟨rfl, rfl⟩ := h_47
    refine V_to (pc' := 50) (ls' := [(5, .int x_8), (4, .int x_5), (3, .int x_1), (0, .ref o), (1, .int b), (2, .int hv)]) (st' := []) (ws' := [(o, .inr (7, [.ref p, .ref h, .ref sa, .ref si, .int z])), (h, .inl (Y 0, 24, .inl (upd fh (bn % 24) x_8)))]) ?_ rfl rfl rfl rfl
    exact V_vret X hr dX8_setHad_50 (⟨(upd fh (bn % 24) x_8), rfl, rfl, HV_set hH hb (fun i hi => by rw [hclr i hi, bz_f0 c_34]; by_cases q : i = bn / 24 <;> simp [q])⟩)
  · refine V_iload X 0 rfl dX8_setHad_37 ?_
    refine V_iload X 1 rfl dX8_setHad_39 ?_
    refine V_ior X dX8_setHad_41 (fun x_10 ex_10 => ?_)
    have hor : ∀ i, i < 32 → bt x_10 i = (bt x_8 i || bt x_5 i) := fun i _ => by rw [ex_10, b_or]
    refine V_goto X 47 (by decide) dX8_setHad_42 ?_
    refine V_callS (wr := [(o, .inr (7, [.ref p, .ref h, .ref sa, .ref si, .int z]))]) (st := []) X (c_X1_set l D Y h x_1 (bn % 24) x_10 24 fh tx_1 (by omega) (by omega)) 3 gX8_setHad_X1_set rfl (by decide +kernel) ⟨rfl, rfl⟩ ⟨Nat.le_of_ble_eq_true rfl, Nat.le_of_ble_eq_true rfl⟩ [1] [0] rfl rfl rfl rfl (by decide) rfl rfl (Nat.le_of_ble_eq_true rfl) ⟨Nat.le_of_ble_eq_true rfl, Nat.le_of_ble_eq_true rfl⟩ dX8_setHad_47 (fun v_47 w_47 h_47 => ?_)
    obtain ⟨rfl, rfl⟩ := h_47
    refine V_to (pc' := 50) (ls' := [(5, .int x_8), (4, .int x_5), (3, .int x_1), (0, .ref o), (1, .int b), (2, .int hv)]) (st' := []) (ws' := [(o, .inr (7, [.ref p, .ref h, .ref sa, .ref si, .int z])), (h, .inl (Y 0, 24, .inl (upd fh (bn % 24) x_10)))]) ?_ rfl rfl rfl rfl
    exact V_vret X hr dX8_setHad_50 (⟨(upd fh (bn % 24) x_10), rfl, rfl, HV_set hH hb (fun i hi => by rw [hor i hi, hclr i hi, hone i hi, bz_t0 c_34]; by_cases q : i = bn / 24 <;> simp [q])⟩)

theorem in_X8_havers_X8 : ∀ w ∈ wsX80, w ∈ wsX8_havers := fun w h => List.mem_cons_of_mem _ (List.mem_append_right _ h)
set_option maxHeartbeats 4000000 in
set_option maxRecDepth 100000 in
theorem c_X8_havers (l : Launch) (D : va_G) (Y : Nat → ClassId) (o : Nat) (p : Nat) (h : Nat) (sa : Nat) (si : Nat) (z : Int32) (x : Int32) (l_ : Nat) (y : Int32) (w : Nat) (fh : Nat → Int32) (tx : x.toInt = ((l_ : Nat) : Int)) (ty : y.toInt = ((w : Nat) : Int)) (hl : l_ < 12) (hw : w < 2) : Mg l yX8_havers wsX8_havers ({ frames := 1, cells := 0, slots := 0, locals := 21 }) D Y [(o, .inr (7, [.ref p, .ref h, .ref sa, .ref si, .int z])), (h, .inl (Y 0, 24, .inl fh))] [.ref o, .int x, .int y] 0 0 (fun vv__ ww__ => (vv__ = some (.int (fh (2 * l_ + w))) ∧ ww__ = [(o, .inr (7, [.ref p, .ref h, .ref sa, .ref si, .int z])), (h, .inl (Y 0, 24, .inl fh))])) := by
  refine Mg_of (cc := cX8_havers) (maxL := 3) (ret := (some .int)) (ls0 := [(0, .ref o), (1, .int x), (2, .int y)]) RX8 (by decide) rfl rfl rfl (Nat.le_of_ble_eq_true rfl) (fun p__ e__ s__ m__ b__ t__ c__ X hr hn => ?_)
  refine V_aload_n X 0 rfl dX8_havers_0 ?_
  refine V_get (C := RX8) (T := TX8) (N := 5) (ci := 7) (v := .ref h) X in_X8_havers_X8 0 rfl rfl 1 (by decide) (List.mem_of_getElem? (i := 1) rfl) rfl rfl dX8_havers_1 ?_
  refine V_iconst (v := (2 : Int32)) X (by decide) dX8_havers_4 ?_
  refine V_iload_n X 1 rfl dX8_havers_5 ?_
  refine V_imulZ X (show (2 : Int32).toInt = 2 from by decide) tx (by omega) (by omega) dX8_havers_6 (fun x_1 ex_1 tx_1 => ?_)
  have tx_1 : x_1.toInt = (((2 * l_) : Nat) : Int) := by omega
  refine V_iload_n X 2 rfl dX8_havers_7 ?_
  refine V_iaddZ X tx_1 ty (by omega) (by omega) dX8_havers_8 (fun x_2 ex_2 tx_2 => ?_)
  have tx_2 : x_2.toInt = ((((2 * l_) + w) : Nat) : Int) := by omega
  refine V_callS (wr := [(o, .inr (7, [.ref p, .ref h, .ref sa, .ref si, .int z]))]) (st := []) X (c_X1_at l D Y h x_2 ((2 * l_) + w) 24 fh tx_2 (by omega) (by omega)) 2 gX8_havers_X1_at rfl (by decide +kernel) ⟨rfl, rfl⟩ ⟨Nat.le_of_ble_eq_true rfl, Nat.le_of_ble_eq_true rfl⟩ [1] [0] rfl rfl rfl rfl (by decide) rfl rfl (Nat.le_of_ble_eq_true rfl) ⟨Nat.le_of_ble_eq_true rfl, Nat.le_of_ble_eq_true rfl⟩ dX8_havers_9 (fun v_9 w_9 h_9 => ?_)
  obtain ⟨rfl, rfl⟩ := h_9
  refine V_to (pc' := 12) (ls' := [(0, .ref o), (1, .int x), (2, .int y)]) (st' := [.int (fh ((2 * l_) + w))]) (ws' := [(o, .inr (7, [.ref p, .ref h, .ref sa, .ref si, .int z])), (h, .inl (Y 0, 24, .inl fh))]) ?_ rfl rfl rfl rfl
  exact V_iret X hr dX8_havers_12 (⟨(by first | rfl | (congr 2)), rfl⟩)

set_option maxHeartbeats 4000000 in
set_option maxRecDepth 100000 in
theorem c_X8_minds (l : Launch) (D : va_G) (Y : Nat → ClassId) (o : Nat) (p : Nat) (h : Nat) (sa : Nat) (si : Nat) (z : Int32) (x : Int32) (l_ : Nat) (fh : Nat → Int32) (tx : x.toInt = ((l_ : Nat) : Int)) (hl : l_ < 12) : Mg l yX8_minds wsX8_minds ({ frames := 2, cells := 0, slots := 0, locals := 43 }) D Y [(o, .inr (7, [.ref p, .ref h, .ref sa, .ref si, .int z])), (h, .inl (Y 0, 24, .inl fh))] [.ref o, .int x] 0 0 (fun vv__ ww__ => (∃ (r : Int32), vv__ = some (.int r) ∧ ww__ = [(o, .inr (7, [.ref p, .ref h, .ref sa, .ref si, .int z])), (h, .inl (Y 0, 24, .inl fh))] ∧ (r = fh (2 * l_ + 0) ||| fh (2 * l_ + 1)))) := by
  refine Mg_of (cc := cX8_minds) (maxL := 2) (ret := (some .int)) (ls0 := [(0, .ref o), (1, .int x)]) RX8 (by decide) rfl rfl rfl (Nat.le_of_ble_eq_true rfl) (fun p__ e__ s__ m__ b__ t__ c__ X hr hn => ?_)
  refine V_aload_n X 0 rfl dX8_minds_0 ?_
  refine V_iload_n X 1 rfl dX8_minds_1 ?_
  refine V_iconst (v := (0 : Int32)) X (by decide) dX8_minds_2 ?_
  refine V_callV (C := RX8) (wr := []) (st := []) X (c_X8_havers l D Y o p h sa si z x l_ (0 : Int32) 0 fh tx (by have h9 : (0 : Int32).toInt = 0 := (show (0 : Int32).toInt = 0 from by decide); omega) hl (by omega)) 2 gX8_minds_X8_havers rfl (by decide +kernel) ⟨rfl, rfl⟩ ⟨Nat.le_of_ble_eq_true rfl, Nat.le_of_ble_eq_true rfl⟩ [0, 1] [] rfl rfl rfl rfl (by decide) (ci := 7) rfl rfl 0 rfl rfl rfl (Nat.le_of_ble_eq_true rfl) ⟨Nat.le_of_ble_eq_true rfl, Nat.le_of_ble_eq_true rfl⟩ dX8_minds_3 (fun v_3 w_3 h_3 => ?_)
  obtain ⟨rfl, rfl⟩ := h_3
  refine V_to (pc' := 6) (ls' := [(0, .ref o), (1, .int x)]) (st' := [.int (fh (2 * l_ + 0))]) (ws' := [(o, .inr (7, [.ref p, .ref h, .ref sa, .ref si, .int z])), (h, .inl (Y 0, 24, .inl fh))]) ?_ rfl rfl rfl rfl
  refine V_aload_n X 0 rfl dX8_minds_6 ?_
  refine V_iload_n X 1 rfl dX8_minds_7 ?_
  refine V_iconst (v := (1 : Int32)) X (by decide) dX8_minds_8 ?_
  refine V_callV (C := RX8) (wr := []) (st := [.int (fh (2 * l_ + 0))]) X (c_X8_havers l D Y o p h sa si z x l_ (1 : Int32) 1 fh tx (by have h9 : (1 : Int32).toInt = 1 := (show (1 : Int32).toInt = 1 from by decide); omega) hl (by omega)) 2 gX8_minds_X8_havers rfl (by decide +kernel) ⟨rfl, rfl⟩ ⟨Nat.le_of_ble_eq_true rfl, Nat.le_of_ble_eq_true rfl⟩ [0, 1] [] rfl rfl rfl rfl (by decide) (ci := 7) rfl rfl 0 rfl rfl rfl (Nat.le_of_ble_eq_true rfl) ⟨Nat.le_of_ble_eq_true rfl, Nat.le_of_ble_eq_true rfl⟩ dX8_minds_9 (fun v_9 w_9 h_9 => ?_)
  obtain ⟨rfl, rfl⟩ := h_9
  refine V_to (pc' := 12) (ls' := [(0, .ref o), (1, .int x)]) (st' := [.int (fh (2 * l_ + 1)), .int (fh (2 * l_ + 0))]) (ws' := [(o, .inr (7, [.ref p, .ref h, .ref sa, .ref si, .int z])), (h, .inl (Y 0, 24, .inl fh))]) ?_ rfl rfl rfl rfl
  refine V_ior X dX8_minds_12 (fun x_3 ex_3 => ?_)
  exact V_iret X hr dX8_minds_13 (⟨x_3, rfl, rfl, ex_3⟩)

set_option maxHeartbeats 4000000 in
set_option maxRecDepth 100000 in
theorem c_X8_canBeSung (l : Launch) (D : va_G) (Y : Nat → ClassId) (o : Nat) (p : Nat) (h : Nat) (sa : Nat) (si : Nat) (z : Int32) (x : Int32) (l_ : Nat) (fh : Nat → Int32) (B : Nat → Bool) (hH : HV fh B) (tx : x.toInt = ((l_ : Nat) : Int)) (hl : l_ < 12) : Mg l yX8_canBeSung wsX8_canBeSung ({ frames := 2, cells := 0, slots := 0, locals := 43 }) D Y [(o, .inr (7, [.ref p, .ref h, .ref sa, .ref si, .int z])), (h, .inl (Y 0, 24, .inl fh))] [.ref o, .int x] 0 0 (fun vv__ ww__ => (vv__ = some (.int (1 : Int32)) ∧ ww__ = [(o, .inr (7, [.ref p, .ref h, .ref sa, .ref si, .int z])), (h, .inl (Y 0, 24, .inl fh))] ∧ (canS B l_ = true)) ∨ (vv__ = some (.int (0 : Int32)) ∧ ww__ = [(o, .inr (7, [.ref p, .ref h, .ref sa, .ref si, .int z])), (h, .inl (Y 0, 24, .inl fh))] ∧ (canS B l_ = false))) := by
  refine Mg_of (cc := cX8_canBeSung) (maxL := 2) (ret := (some .boolean)) (ls0 := [(0, .ref o), (1, .int x)]) RX8 (by decide) rfl rfl rfl (Nat.le_of_ble_eq_true rfl) (fun p__ e__ s__ m__ b__ t__ c__ X hr hn => ?_)
  refine V_aload_n X 0 rfl dX8_canBeSung_0 ?_
  refine V_iload_n X 1 rfl dX8_canBeSung_1 ?_
  refine V_iconst (v := (0 : Int32)) X (by decide) dX8_canBeSung_2 ?_
  refine V_callV (C := RX8) (wr := []) (st := []) X (c_X8_havers l D Y o p h sa si z x l_ (0 : Int32) 0 fh tx (by have h9 : (0 : Int32).toInt = 0 := (show (0 : Int32).toInt = 0 from by decide); omega) hl (by omega)) 2 gX8_canBeSung_X8_havers rfl (by decide +kernel) ⟨rfl, rfl⟩ ⟨Nat.le_of_ble_eq_true rfl, Nat.le_of_ble_eq_true rfl⟩ [0, 1] [] rfl rfl rfl rfl (by decide) (ci := 7) rfl rfl 0 rfl rfl rfl (Nat.le_of_ble_eq_true rfl) ⟨Nat.le_of_ble_eq_true rfl, Nat.le_of_ble_eq_true rfl⟩ dX8_canBeSung_3 (fun v_3 w_3 h_3 => ?_)
  obtain ⟨rfl, rfl⟩ := h_3
  refine V_to (pc' := 6) (ls' := [(0, .ref o), (1, .int x)]) (st' := [.int (fh (2 * l_ + 0))]) (ws' := [(o, .inr (7, [.ref p, .ref h, .ref sa, .ref si, .int z])), (h, .inl (Y 0, 24, .inl fh))]) ?_ rfl rfl rfl rfl
  refine V_if_eq X rfl 22 dX8_canBeSung_6 (by decide) (fun c_6 => ?_) (fun c_6 => ?_)
  · refine V_iconst (v := (0 : Int32)) X (by decide) dX8_canBeSung_22 ?_
    exact V_zret X hr rfl dX8_canBeSung_23 (Or.inr (⟨rfl, rfl, canS_f0 hH hl c_6⟩))
  · refine V_aload_n X 0 rfl dX8_canBeSung_9 ?_
    refine V_iload_n X 1 rfl dX8_canBeSung_10 ?_
    refine V_iconst (v := (1 : Int32)) X (by decide) dX8_canBeSung_11 ?_
    refine V_callV (C := RX8) (wr := []) (st := []) X (c_X8_havers l D Y o p h sa si z x l_ (1 : Int32) 1 fh tx (by have h9 : (1 : Int32).toInt = 1 := (show (1 : Int32).toInt = 1 from by decide); omega) hl (by omega)) 2 gX8_canBeSung_X8_havers rfl (by decide +kernel) ⟨rfl, rfl⟩ ⟨Nat.le_of_ble_eq_true rfl, Nat.le_of_ble_eq_true rfl⟩ [0, 1] [] rfl rfl rfl rfl (by decide) (ci := 7) rfl rfl 0 rfl rfl rfl (Nat.le_of_ble_eq_true rfl) ⟨Nat.le_of_ble_eq_true rfl, Nat.le_of_ble_eq_true rfl⟩ dX8_canBeSung_12 (fun v_12 w_12 h_12 => ?_)
    obtain ⟨rfl, rfl⟩ := h_12
    refine V_to (pc' := 15) (ls' := [(0, .ref o), (1, .int x)]) (st' := [.int (fh (2 * l_ + 1))]) (ws' := [(o, .inr (7, [.ref p, .ref h, .ref sa, .ref si, .int z])), (h, .inl (Y 0, 24, .inl fh))]) ?_ rfl rfl rfl rfl
    refine V_if_eq X rfl 22 dX8_canBeSung_15 (by decide) (fun c_15 => ?_) (fun c_15 => ?_)
    · refine V_iconst (v := (0 : Int32)) X (by decide) dX8_canBeSung_22 ?_
      exact V_zret X hr rfl dX8_canBeSung_23 (Or.inr (⟨rfl, rfl, canS_f1 hH hl c_15⟩))
    · refine V_iconst (v := (1 : Int32)) X (by decide) dX8_canBeSung_18 ?_
      refine V_goto X 23 (by decide) dX8_canBeSung_19 ?_
      exact V_zret X hr rfl dX8_canBeSung_23 (Or.inl ⟨rfl, rfl, canS_t hH hl c_6 c_15⟩)

set_option maxHeartbeats 4000000 in
set_option maxRecDepth 100000 in
theorem c_X8_isLacked (l : Launch) (D : va_G) (Y : Nat → ClassId) (o : Nat) (p : Nat) (h : Nat) (sa : Nat) (si : Nat) (z : Int32) (n : Nat) (b : Int32) (bn : Nat) (fh : Nat → Int32) (B : Nat → Bool) (tz : z.toInt = ((n : Nat) : Int)) (hH : HV fh B) (tb : b.toInt = ((bn : Nat) : Int)) (hb : bn < 96) : Mg l yX8_isLacked wsX8_isLacked ({ frames := 2, cells := 0, slots := 0, locals := 42 }) D Y [(o, .inr (7, [.ref p, .ref h, .ref sa, .ref si, .int z])), (h, .inl (Y 0, 24, .inl fh))] [.ref o, .int b] 0 0 (fun vv__ ww__ => (vv__ = some (.int (1 : Int32)) ∧ ww__ = [(o, .inr (7, [.ref p, .ref h, .ref sa, .ref si, .int z])), (h, .inl (Y 0, 24, .inl fh))] ∧ (bn / 2 % 12 < n) ∧ (B bn = false)) ∨ (vv__ = some (.int (0 : Int32)) ∧ ww__ = [(o, .inr (7, [.ref p, .ref h, .ref sa, .ref si, .int z])), (h, .inl (Y 0, 24, .inl fh))] ∧ (n ≤ bn / 2 % 12 ∨ B bn = true))) := by
  refine Mg_of (cc := cX8_isLacked) (maxL := 2) (ret := (some .boolean)) (ls0 := [(0, .ref o), (1, .int b)]) RX8 (by decide) rfl rfl rfl (Nat.le_of_ble_eq_true rfl) (fun p__ e__ s__ m__ b__ t__ c__ X hr hn => ?_)
  refine V_aload_n X 0 rfl dX8_isLacked_0 ?_
  refine V_iload_n X 1 rfl dX8_isLacked_1 ?_
  refine V_callS (wr := [(o, .inr (7, [.ref p, .ref h, .ref sa, .ref si, .int z])), (h, .inl (Y 0, 24, .inl fh))]) (st := [.ref o]) X (c_X8_lineOf l D Y b bn tb) 1 gX8_isLacked_X8_lineOf rfl (by decide +kernel) ⟨rfl, rfl⟩ ⟨Nat.le_of_ble_eq_true rfl, Nat.le_of_ble_eq_true rfl⟩ [] [0, 1] rfl rfl rfl rfl (by decide) rfl rfl (Nat.le_of_ble_eq_true rfl) ⟨Nat.le_of_ble_eq_true rfl, Nat.le_of_ble_eq_true rfl⟩ dX8_isLacked_2 (fun v_2 w_2 h_2 => ?_)
  obtain ⟨r_2, rfl, rfl, htr_3⟩ := h_2
  refine V_to (pc' := 5) (ls' := [(0, .ref o), (1, .int b)]) (st' := [.int r_2, .ref o]) (ws' := [(o, .inr (7, [.ref p, .ref h, .ref sa, .ref si, .int z])), (h, .inl (Y 0, 24, .inl fh))]) ?_ rfl rfl rfl rfl
  refine V_callV (C := RX8) (wr := [(h, .inl (Y 0, 24, .inl fh))]) (st := []) X (c_X8_isLine l D Y o r_2 p h sa si z) 1 gX8_isLacked_X8_isLine rfl (by decide +kernel) ⟨rfl, rfl⟩ ⟨Nat.le_of_ble_eq_true rfl, Nat.le_of_ble_eq_true rfl⟩ [0] [1] rfl rfl rfl rfl (by decide) (ci := 7) rfl rfl 0 rfl rfl rfl (Nat.le_of_ble_eq_true rfl) ⟨Nat.le_of_ble_eq_true rfl, Nat.le_of_ble_eq_true rfl⟩ dX8_isLacked_5 (fun v_5 w_5 h_5 => ?_)
  rcases h_5 with ⟨rfl, rfl, hhy_5⟩ | ⟨rfl, rfl, hhn_6⟩
  · refine V_to (pc' := 8) (ls' := [(0, .ref o), (1, .int b)]) (st' := [.int (1 : Int32)]) (ws' := [(h, .inl (Y 0, 24, .inl fh)), (o, .inr (7, [.ref p, .ref h, .ref sa, .ref si, .int z]))]) ?_ rfl rfl rfl rfl
    refine V_if_eq X (show (1 : Int32).toInt = 1 from by decide) 23 dX8_isLacked_8 (by decide) (fun c_8 => absurd c_8 (by decide)) (fun _ => ?_)
    refine V_aload_n X 0 rfl dX8_isLacked_11 ?_
    refine V_iload_n X 1 rfl dX8_isLacked_12 ?_
    refine V_callV (C := RX8) (wr := []) (st := []) X (c_X8_isHad l D Y o p h sa si z b bn fh B hH tb hb) 1 gX8_isLacked_X8_isHad rfl (by decide +kernel) ⟨rfl, rfl⟩ ⟨Nat.le_of_ble_eq_true rfl, Nat.le_of_ble_eq_true rfl⟩ [1, 0] [] rfl rfl rfl rfl (by decide) (ci := 7) rfl rfl 0 rfl rfl rfl (Nat.le_of_ble_eq_true rfl) ⟨Nat.le_of_ble_eq_true rfl, Nat.le_of_ble_eq_true rfl⟩ dX8_isLacked_13 (fun v_13 w_13 h_13 => ?_)
    rcases h_13 with ⟨rfl, rfl, hhy_8⟩ | ⟨rfl, rfl, hhn_9⟩
    · refine V_to (pc' := 16) (ls' := [(0, .ref o), (1, .int b)]) (st' := [.int (1 : Int32)]) (ws' := [(o, .inr (7, [.ref p, .ref h, .ref sa, .ref si, .int z])), (h, .inl (Y 0, 24, .inl fh))]) ?_ rfl rfl rfl rfl
      refine V_if_ne X (show (1 : Int32).toInt = 1 from by decide) 23 dX8_isLacked_16 (by decide) (fun _ => ?_) (fun c_16 => absurd c_16 (by decide))
      refine V_iconst (v := (0 : Int32)) X (by decide) dX8_isLacked_23 ?_
      exact V_zret X hr rfl dX8_isLacked_24 (Or.inr (⟨rfl, rfl, Or.inr hhy_8⟩))
    · refine V_to (pc' := 16) (ls' := [(0, .ref o), (1, .int b)]) (st' := [.int (0 : Int32)]) (ws' := [(o, .inr (7, [.ref p, .ref h, .ref sa, .ref si, .int z])), (h, .inl (Y 0, 24, .inl fh))]) ?_ rfl rfl rfl rfl
      refine V_if_ne X (show (0 : Int32).toInt = 0 from by decide) 23 dX8_isLacked_16 (by decide) (fun c_16 => absurd c_16 (by decide)) (fun _ => ?_)
      refine V_iconst (v := (1 : Int32)) X (by decide) dX8_isLacked_19 ?_
      refine V_goto X 24 (by decide) dX8_isLacked_20 ?_
      exact V_zret X hr rfl dX8_isLacked_24 (Or.inl ⟨rfl, rfl, (by omega), hhn_9⟩)
  · refine V_to (pc' := 8) (ls' := [(0, .ref o), (1, .int b)]) (st' := [.int (0 : Int32)]) (ws' := [(h, .inl (Y 0, 24, .inl fh)), (o, .inr (7, [.ref p, .ref h, .ref sa, .ref si, .int z]))]) ?_ rfl rfl rfl rfl
    refine V_if_eq X (show (0 : Int32).toInt = 0 from by decide) 23 dX8_isLacked_8 (by decide) (fun _ => ?_) (fun c_8 => absurd c_8 (by decide))
    refine V_iconst (v := (0 : Int32)) X (by decide) dX8_isLacked_23 ?_
    refine V_ws (ws' := [(o, .inr (7, [.ref p, .ref h, .ref sa, .ref si, .int z])), (h, .inl (Y 0, 24, .inl fh))]) [1, 0] rfl rfl rfl ?_
    exact V_zret X hr rfl dX8_isLacked_24 (Or.inr (⟨rfl, rfl, Or.inl (by omega)⟩))

set_option maxHeartbeats 4000000 in
set_option maxRecDepth 100000 in
theorem c_X8_mayBe (l : Launch) (D : va_G) (Y : Nat → ClassId) (x : Int32) (y : Int32) (q : Int32) : Mg l yX8_mayBe wsX8_mayBe ({ frames := 1, cells := 0, slots := 0, locals := 21 }) D Y [] [.int x, .int y, .int q] 0 0 (fun vv__ ww__ => (vv__ = some (.int (1 : Int32)) ∧ ww__ = [] ∧ (0 ≤ x.toInt ∧ x.toInt < 8 ∧ 0 ≤ y.toInt ∧ y.toInt < 8 ∧ 0 ≤ q.toInt ∧ q.toInt < 8)) ∨ (vv__ = some (.int (0 : Int32)) ∧ ww__ = [] ∧ (¬ (0 ≤ x.toInt ∧ x.toInt < 8 ∧ 0 ≤ y.toInt ∧ y.toInt < 8 ∧ 0 ≤ q.toInt ∧ q.toInt < 8)))) := by
  refine Mg_of (cc := cX8_mayBe) (maxL := 3) (ret := (some .boolean)) (ls0 := [(0, .int x), (1, .int y), (2, .int q)]) RX8 (by decide) rfl rfl rfl (Nat.le_of_ble_eq_true rfl) (fun p__ e__ s__ m__ b__ t__ c__ X hr hn => ?_)
  refine V_iload_n X 0 rfl dX8_mayBe_0 ?_
  refine V_bipush (v := (8 : Int32)) X (by decide) dX8_mayBe_1 ?_
  refine V_callSN (host := "TuneAndWords") (wr := []) (st := []) X (c_X10_isOf l D Y x (8 : Int32)) 2 ggX8_mayBe_X10_isOf rfl (by decide +kernel) (List.mem_of_getElem? (i := 2) rfl) (List.mem_of_getElem? (i := 1) rfl) (by decide +kernel) ⟨rfl, rfl⟩ ⟨Nat.le_of_ble_eq_true rfl, Nat.le_of_ble_eq_true rfl⟩ [] [] rfl rfl rfl rfl (by decide) rfl rfl (Nat.le_of_ble_eq_true rfl) ⟨Nat.le_of_ble_eq_true rfl, Nat.le_of_ble_eq_true rfl⟩ dX8_mayBe_3 (fun v_3 w_3 h_3 => ?_)
  rcases h_3 with ⟨rfl, rfl, hhy_2⟩ | ⟨rfl, rfl, hhn_3⟩
  · refine V_to (pc' := 6) (ls' := [(0, .int x), (1, .int y), (2, .int q)]) (st' := [.int (1 : Int32)]) (ws' := []) ?_ rfl rfl rfl rfl
    have hc_8 : (8 : Int32).toInt = 8 := by decide
    refine V_if_eq X (show (1 : Int32).toInt = 1 from by decide) 31 dX8_mayBe_6 (by decide) (fun c_6 => absurd c_6 (by decide)) (fun _ => ?_)
    refine V_iload_n X 1 rfl dX8_mayBe_9 ?_
    refine V_bipush (v := (8 : Int32)) X (by decide) dX8_mayBe_10 ?_
    refine V_callSN (host := "TuneAndWords") (wr := []) (st := []) X (c_X10_isOf l D Y y (8 : Int32)) 2 ggX8_mayBe_X10_isOf rfl (by decide +kernel) (List.mem_of_getElem? (i := 2) rfl) (List.mem_of_getElem? (i := 1) rfl) (by decide +kernel) ⟨rfl, rfl⟩ ⟨Nat.le_of_ble_eq_true rfl, Nat.le_of_ble_eq_true rfl⟩ [] [] rfl rfl rfl rfl (by decide) rfl rfl (Nat.le_of_ble_eq_true rfl) ⟨Nat.le_of_ble_eq_true rfl, Nat.le_of_ble_eq_true rfl⟩ dX8_mayBe_12 (fun v_12 w_12 h_12 => ?_)
    rcases h_12 with ⟨rfl, rfl, hhy_5⟩ | ⟨rfl, rfl, hhn_6⟩
    · refine V_to (pc' := 15) (ls' := [(0, .int x), (1, .int y), (2, .int q)]) (st' := [.int (1 : Int32)]) (ws' := []) ?_ rfl rfl rfl rfl
      refine V_if_eq X (show (1 : Int32).toInt = 1 from by decide) 31 dX8_mayBe_15 (by decide) (fun c_15 => absurd c_15 (by decide)) (fun _ => ?_)
      refine V_iload_n X 2 rfl dX8_mayBe_18 ?_
      refine V_bipush (v := (8 : Int32)) X (by decide) dX8_mayBe_19 ?_
      refine V_callSN (host := "TuneAndWords") (wr := []) (st := []) X (c_X10_isOf l D Y q (8 : Int32)) 2 ggX8_mayBe_X10_isOf rfl (by decide +kernel) (List.mem_of_getElem? (i := 2) rfl) (List.mem_of_getElem? (i := 1) rfl) (by decide +kernel) ⟨rfl, rfl⟩ ⟨Nat.le_of_ble_eq_true rfl, Nat.le_of_ble_eq_true rfl⟩ [] [] rfl rfl rfl rfl (by decide) rfl rfl (Nat.le_of_ble_eq_true rfl) ⟨Nat.le_of_ble_eq_true rfl, Nat.le_of_ble_eq_true rfl⟩ dX8_mayBe_21 (fun v_21 w_21 h_21 => ?_)
      rcases h_21 with ⟨rfl, rfl, hhy_8⟩ | ⟨rfl, rfl, hhn_9⟩
      · refine V_to (pc' := 24) (ls' := [(0, .int x), (1, .int y), (2, .int q)]) (st' := [.int (1 : Int32)]) (ws' := []) ?_ rfl rfl rfl rfl
        refine V_if_eq X (show (1 : Int32).toInt = 1 from by decide) 31 dX8_mayBe_24 (by decide) (fun c_24 => absurd c_24 (by decide)) (fun _ => ?_)
        refine V_iconst (v := (1 : Int32)) X (by decide) dX8_mayBe_27 ?_
        refine V_goto X 32 (by decide) dX8_mayBe_28 ?_
        exact V_zret X hr rfl dX8_mayBe_32 (Or.inl ⟨rfl, rfl, (by simp only [show ((8 : Int32)).toInt = 8 from by decide] at *; omega)⟩)
      · refine V_to (pc' := 24) (ls' := [(0, .int x), (1, .int y), (2, .int q)]) (st' := [.int (0 : Int32)]) (ws' := []) ?_ rfl rfl rfl rfl
        refine V_if_eq X (show (0 : Int32).toInt = 0 from by decide) 31 dX8_mayBe_24 (by decide) (fun _ => ?_) (fun c_24 => absurd c_24 (by decide))
        refine V_iconst (v := (0 : Int32)) X (by decide) dX8_mayBe_31 ?_
        exact V_zret X hr rfl dX8_mayBe_32 (Or.inr (⟨rfl, rfl, (by simp only [show ((8 : Int32)).toInt = 8 from by decide] at *; omega)⟩))
    · refine V_to (pc' := 15) (ls' := [(0, .int x), (1, .int y), (2, .int q)]) (st' := [.int (0 : Int32)]) (ws' := []) ?_ rfl rfl rfl rfl
      refine V_if_eq X (show (0 : Int32).toInt = 0 from by decide) 31 dX8_mayBe_15 (by decide) (fun _ => ?_) (fun c_15 => absurd c_15 (by decide))
      refine V_iconst (v := (0 : Int32)) X (by decide) dX8_mayBe_31 ?_
      exact V_zret X hr rfl dX8_mayBe_32 (Or.inr (⟨rfl, rfl, (by simp only [show ((8 : Int32)).toInt = 8 from by decide] at *; omega)⟩))
  · refine V_to (pc' := 6) (ls' := [(0, .int x), (1, .int y), (2, .int q)]) (st' := [.int (0 : Int32)]) (ws' := []) ?_ rfl rfl rfl rfl
    have hc_8 : (8 : Int32).toInt = 8 := by decide
    refine V_if_eq X (show (0 : Int32).toInt = 0 from by decide) 31 dX8_mayBe_6 (by decide) (fun _ => ?_) (fun c_6 => absurd c_6 (by decide))
    refine V_iconst (v := (0 : Int32)) X (by decide) dX8_mayBe_31 ?_
    exact V_zret X hr rfl dX8_mayBe_32 (Or.inr (⟨rfl, rfl, (by simp only [show ((8 : Int32)).toInt = 8 from by decide] at *; omega)⟩))

theorem in_X8_addLine_X8 : ∀ w ∈ wsX80, w ∈ wsX8_addLine := fun w h => List.mem_cons_of_mem _ (List.mem_append_right _ h)
set_option maxHeartbeats 4000000 in
set_option maxRecDepth 100000 in
theorem c_X8_addLine (l : Launch) (D : va_G) (Y : Nat → ClassId) (o : Nat) (p : Nat) (h : Nat) (sa : Nat) (si : Nat) (z : Int32) (n : Nat) (tv : Int32) (wv : Int32) (rv : Int32) (fp : Nat → Int32) (tz : z.toInt = ((n : Nat) : Int)) (hn12 : n < 12) : Mg l yX8_addLine wsX8_addLine ({ frames := 2, cells := 0, slots := 0, locals := 45 }) D Y [(o, .inr (7, [.ref p, .ref h, .ref sa, .ref si, .int z])), (p, .inl (Y 0, 36, .inl fp))] [.ref o, .int tv, .int wv, .int rv] 0 0 (fun vv__ ww__ => (∃ (r : Int32), ∃ (z2 : Int32), vv__ = some (.int r) ∧ ww__ = [(o, .inr (7, [.ref p, .ref h, .ref sa, .ref si, .int z2])), (p, .inl (Y 0, 36, .inl (upd (upd (upd fp (3 * n + 0) tv) (3 * n + 1) wv) (3 * n + 2) rv)))] ∧ (r.toInt = ((n : Nat) : Int)) ∧ (z2.toInt = ((n + 1 : Nat) : Int)))) := by
  refine Mg_of (cc := cX8_addLine) (maxL := 4) (ret := (some .int)) (ls0 := [(0, .ref o), (1, .int tv), (2, .int wv), (3, .int rv)]) RX8 (by decide) rfl rfl rfl (Nat.le_of_ble_eq_true rfl) (fun p__ e__ s__ m__ b__ t__ c__ X hr hn => ?_)
  refine V_aload_n X 0 rfl dX8_addLine_0 ?_
  refine V_aload_n X 0 rfl dX8_addLine_1 ?_
  refine V_get (C := RX8) (T := TX8) (N := 5) (ci := 7) (v := .int z) X in_X8_addLine_X8 0 rfl rfl 4 (by decide) (List.mem_of_getElem? (i := 1) rfl) rfl rfl dX8_addLine_2 ?_
  refine V_iconst (v := (0 : Int32)) X (by decide) dX8_addLine_5 ?_
  refine V_iload_n X 1 rfl dX8_addLine_6 ?_
  refine V_callV (C := RX8) (wr := []) (st := []) X (c_X8_setPart l D Y o p h sa si z z n (0 : Int32) 0 tv fp tz (by have h9 : (0 : Int32).toInt = 0 := (show (0 : Int32).toInt = 0 from by decide); omega) hn12 (by omega)) 3 gX8_addLine_X8_setPart rfl (by decide +kernel) ⟨rfl, rfl⟩ ⟨Nat.le_of_ble_eq_true rfl, Nat.le_of_ble_eq_true rfl⟩ [0, 1] [] rfl rfl rfl rfl (by decide) (ci := 7) rfl rfl 0 rfl rfl rfl (Nat.le_of_ble_eq_true rfl) ⟨Nat.le_of_ble_eq_true rfl, Nat.le_of_ble_eq_true rfl⟩ dX8_addLine_7 (fun v_7 w_7 h_7 => ?_)
  obtain ⟨rfl, rfl⟩ := h_7
  refine V_to (pc' := 10) (ls' := [(0, .ref o), (1, .int tv), (2, .int wv), (3, .int rv)]) (st' := []) (ws' := [(o, .inr (7, [.ref p, .ref h, .ref sa, .ref si, .int z])), (p, .inl (Y 0, 36, .inl (upd fp (3 * n + 0) tv)))]) ?_ rfl rfl rfl rfl
  refine V_aload_n X 0 rfl dX8_addLine_10 ?_
  refine V_aload_n X 0 rfl dX8_addLine_11 ?_
  refine V_get (C := RX8) (T := TX8) (N := 5) (ci := 7) (v := .int z) X in_X8_addLine_X8 0 rfl rfl 4 (by decide) (List.mem_of_getElem? (i := 1) rfl) rfl rfl dX8_addLine_12 ?_
  refine V_iconst (v := (1 : Int32)) X (by decide) dX8_addLine_15 ?_
  refine V_iload_n X 2 rfl dX8_addLine_16 ?_
  refine V_callV (C := RX8) (wr := []) (st := []) X (c_X8_setPart l D Y o p h sa si z z n (1 : Int32) 1 wv (upd fp (3 * n + 0) tv) tz (by have h9 : (1 : Int32).toInt = 1 := (show (1 : Int32).toInt = 1 from by decide); omega) hn12 (by omega)) 3 gX8_addLine_X8_setPart rfl (by decide +kernel) ⟨rfl, rfl⟩ ⟨Nat.le_of_ble_eq_true rfl, Nat.le_of_ble_eq_true rfl⟩ [0, 1] [] rfl rfl rfl rfl (by decide) (ci := 7) rfl rfl 0 rfl rfl rfl (Nat.le_of_ble_eq_true rfl) ⟨Nat.le_of_ble_eq_true rfl, Nat.le_of_ble_eq_true rfl⟩ dX8_addLine_17 (fun v_17 w_17 h_17 => ?_)
  obtain ⟨rfl, rfl⟩ := h_17
  refine V_to (pc' := 20) (ls' := [(0, .ref o), (1, .int tv), (2, .int wv), (3, .int rv)]) (st' := []) (ws' := [(o, .inr (7, [.ref p, .ref h, .ref sa, .ref si, .int z])), (p, .inl (Y 0, 36, .inl (upd (upd fp (3 * n + 0) tv) (3 * n + 1) wv)))]) ?_ rfl rfl rfl rfl
  refine V_aload_n X 0 rfl dX8_addLine_20 ?_
  refine V_aload_n X 0 rfl dX8_addLine_21 ?_
  refine V_get (C := RX8) (T := TX8) (N := 5) (ci := 7) (v := .int z) X in_X8_addLine_X8 0 rfl rfl 4 (by decide) (List.mem_of_getElem? (i := 1) rfl) rfl rfl dX8_addLine_22 ?_
  refine V_iconst (v := (2 : Int32)) X (by decide) dX8_addLine_25 ?_
  refine V_iload_n X 3 rfl dX8_addLine_26 ?_
  refine V_callV (C := RX8) (wr := []) (st := []) X (c_X8_setPart l D Y o p h sa si z z n (2 : Int32) 2 rv (upd (upd fp (3 * n + 0) tv) (3 * n + 1) wv) tz (by have h9 : (2 : Int32).toInt = 2 := (show (2 : Int32).toInt = 2 from by decide); omega) hn12 (by omega)) 3 gX8_addLine_X8_setPart rfl (by decide +kernel) ⟨rfl, rfl⟩ ⟨Nat.le_of_ble_eq_true rfl, Nat.le_of_ble_eq_true rfl⟩ [0, 1] [] rfl rfl rfl rfl (by decide) (ci := 7) rfl rfl 0 rfl rfl rfl (Nat.le_of_ble_eq_true rfl) ⟨Nat.le_of_ble_eq_true rfl, Nat.le_of_ble_eq_true rfl⟩ dX8_addLine_27 (fun v_27 w_27 h_27 => ?_)
  obtain ⟨rfl, rfl⟩ := h_27
  refine V_to (pc' := 30) (ls' := [(0, .ref o), (1, .int tv), (2, .int wv), (3, .int rv)]) (st' := []) (ws' := [(o, .inr (7, [.ref p, .ref h, .ref sa, .ref si, .int z])), (p, .inl (Y 0, 36, .inl (upd (upd (upd fp (3 * n + 0) tv) (3 * n + 1) wv) (3 * n + 2) rv)))]) ?_ rfl rfl rfl rfl
  refine V_aload_n X 0 rfl dX8_addLine_30 ?_
  refine V_dup X rfl dX8_addLine_31 ?_
  refine V_get (C := RX8) (T := TX8) (N := 5) (ci := 7) (v := .int z) X in_X8_addLine_X8 0 rfl rfl 4 (by decide) (List.mem_of_getElem? (i := 1) rfl) rfl rfl dX8_addLine_32 ?_
  refine V_iconst (v := (1 : Int32)) X (by decide) dX8_addLine_35 ?_
  refine V_iaddZ X tz (show (1 : Int32).toInt = 1 from by decide) (by omega) (by omega) dX8_addLine_36 (fun x_4 ex_4 tx_4 => ?_)
  have tx_4 : x_4.toInt = (((n + 1) : Nat) : Int) := by omega
  refine V_put (C := RX8) (T := TX8) (N := 5) (ci := 7) (v := .int x_4) (ty := tyX8 4) (ws' := [(o, .inr (7, [.ref p, .ref h, .ref sa, .ref si, .int x_4])), (p, .inl (Y 0, 36, .inl (upd (upd (upd fp (3 * n + 0) tv) (3 * n + 1) wv) (3 * n + 2) rv)))]) X in_X8_addLine_X8 0 rfl rfl 4 (by decide) (List.mem_of_getElem? (i := 1) rfl) rfl tyX8 tyX8_ok nmX8 rfl (tyX8_ok 4 (by decide)) rfl rfl (Nat.le_of_ble_eq_true rfl) rfl dX8_addLine_37 ?_
  refine V_aload_n X 0 rfl dX8_addLine_40 ?_
  refine V_get (C := RX8) (T := TX8) (N := 5) (ci := 7) (v := .int x_4) X in_X8_addLine_X8 0 rfl rfl 4 (by decide) (List.mem_of_getElem? (i := 1) rfl) rfl rfl dX8_addLine_41 ?_
  refine V_iconst (v := (1 : Int32)) X (by decide) dX8_addLine_44 ?_
  refine V_isubZ X tx_4 (show (1 : Int32).toInt = 1 from by decide) (by omega) (by omega) dX8_addLine_45 (fun x_5 ex_5 tx_5 => ?_)
  have tx_5 : x_5.toInt = ((n : Nat) : Int) := by omega
  exact V_iret X hr dX8_addLine_46 (⟨x_5, x_4, rfl, rfl, (by have h9 : x_5.toInt = ((n : Nat) : Int) := tx_5; omega), (by omega)⟩)

set_option maxHeartbeats 4000000 in
set_option maxRecDepth 100000 in
theorem c_X8_partT (l : Launch) (D : va_G) (Y : Nat → ClassId) (o : Nat) (p : Nat) (h : Nat) (sa : Nat) (si : Nat) (z : Int32) (x : Int32) (l_ : Nat) (y : Int32) (w : Nat) (fp : Nat → Int32) (T : Nat → Nat) (tx : x.toInt = ((l_ : Nat) : Int)) (ty : y.toInt = ((w : Nat) : Int)) (hl : l_ < 12) (hw : w < 3) (hT : PT fp T) : Mg l yX8_part wsX8_part ({ frames := 1, cells := 0, slots := 0, locals := 21 }) D Y [(o, .inr (7, [.ref p, .ref h, .ref sa, .ref si, .int z])), (p, .inl (Y 0, 36, .inl fp))] [.ref o, .int x, .int y] 0 0 (fun vv__ ww__ => (∃ (r : Int32), vv__ = some (.int r) ∧ ww__ = [(o, .inr (7, [.ref p, .ref h, .ref sa, .ref si, .int z])), (p, .inl (Y 0, 36, .inl fp))] ∧ (r.toInt = ((T (3 * l_ + w) : Nat) : Int)) ∧ (T (3 * l_ + w) < 8))) := by
  refine Mg_of (cc := cX8_part) (maxL := 3) (ret := (some .int)) (ls0 := [(0, .ref o), (1, .int x), (2, .int y)]) RX8 (by decide) rfl rfl rfl (Nat.le_of_ble_eq_true rfl) (fun p__ e__ s__ m__ b__ t__ c__ X hr hn => ?_)
  refine V_aload_n X 0 rfl dX8_part_0 ?_
  refine V_get (C := RX8) (T := TX8) (N := 5) (ci := 7) (v := .ref p) X in_X8_part_X8 0 rfl rfl 0 (by decide) (List.mem_of_getElem? (i := 1) rfl) rfl rfl dX8_part_1 ?_
  refine V_iconst (v := (3 : Int32)) X (by decide) dX8_part_4 ?_
  refine V_iload_n X 1 rfl dX8_part_5 ?_
  refine V_imulZ X (show (3 : Int32).toInt = 3 from by decide) tx (by omega) (by omega) dX8_part_6 (fun x_1 ex_1 tx_1 => ?_)
  have tx_1 : x_1.toInt = (((3 * l_) : Nat) : Int) := by omega
  refine V_iload_n X 2 rfl dX8_part_7 ?_
  refine V_iaddZ X tx_1 ty (by omega) (by omega) dX8_part_8 (fun x_2 ex_2 tx_2 => ?_)
  have tx_2 : x_2.toInt = ((((3 * l_) + w) : Nat) : Int) := by omega
  refine V_callS (wr := [(o, .inr (7, [.ref p, .ref h, .ref sa, .ref si, .int z]))]) (st := []) X (c_X1_at l D Y p x_2 ((3 * l_) + w) 36 fp tx_2 (by omega) (by omega)) 2 gX8_part_X1_at rfl (by decide +kernel) ⟨rfl, rfl⟩ ⟨Nat.le_of_ble_eq_true rfl, Nat.le_of_ble_eq_true rfl⟩ [1] [0] rfl rfl rfl rfl (by decide) rfl rfl (Nat.le_of_ble_eq_true rfl) ⟨Nat.le_of_ble_eq_true rfl, Nat.le_of_ble_eq_true rfl⟩ dX8_part_9 (fun v_9 w_9 h_9 => ?_)
  obtain ⟨rfl, rfl⟩ := h_9
  refine V_to (pc' := 12) (ls' := [(0, .ref o), (1, .int x), (2, .int y)]) (st' := [.int (fp ((3 * l_) + w))]) (ws' := [(o, .inr (7, [.ref p, .ref h, .ref sa, .ref si, .int z])), (p, .inl (Y 0, 36, .inl fp))]) ?_ rfl rfl rfl rfl
  exact V_iret X hr dX8_part_12 (⟨(fp ((3 * l_) + w)), rfl, rfl, (hT _ (by omega)).1, (hT _ (by omega)).2⟩)

set_option maxHeartbeats 4000000 in
set_option maxRecDepth 100000 in
theorem c_X8_likeness (l : Launch) (D : va_G) (Y : Nat → ClassId) (o : Nat) (p : Nat) (h : Nat) (sa : Nat) (si : Nat) (z : Int32) (x : Int32) (l1 : Nat) (y : Int32) (l2 : Nat) (fp : Nat → Int32) (T : Nat → Nat) (tx : x.toInt = ((l1 : Nat) : Int)) (ty : y.toInt = ((l2 : Nat) : Int)) (h1 : l1 < 12) (h2 : l2 < 12) (hT : PT fp T) : Mg l yX8_likeness wsX8_likeness ({ frames := 2, cells := 0, slots := 0, locals := 43 }) D Y [(o, .inr (7, [.ref p, .ref h, .ref sa, .ref si, .int z])), (p, .inl (Y 0, 36, .inl fp))] [.ref o, .int x, .int y] 0 0 (fun vv__ ww__ => (∃ (r : Int32), vv__ = some (.int r) ∧ ww__ = [(o, .inr (7, [.ref p, .ref h, .ref sa, .ref si, .int z])), (p, .inl (Y 0, 36, .inl fp))] ∧ (r.toInt = ((lkT T l1 l2 : Nat) : Int)))) := by
  refine Mg_of (cc := cX8_likeness) (maxL := 5) (ret := (some .int)) (ls0 := [(0, .ref o), (1, .int x), (2, .int y)]) RX8 (by decide) rfl rfl rfl (Nat.le_of_ble_eq_true rfl) (fun p__ e__ s__ m__ b__ t__ c__ X hr hn => ?_)
  refine V_iload_n X 2 rfl dX8_likeness_0 ?_
  refine V_iload_n X 1 rfl dX8_likeness_1 ?_
  refine V_iconst (v := (1 : Int32)) X (by decide) dX8_likeness_2 ?_
  refine V_iaddZ X tx (show (1 : Int32).toInt = 1 from by decide) (by omega) (by omega) dX8_likeness_3 (fun x_1 ex_1 tx_1 => ?_)
  have tx_1 : x_1.toInt = (((l1 + 1) : Nat) : Int) := by omega
  refine V_icmp_ne X ty tx_1 11 dX8_likeness_4 (by decide) (fun c_4 => ?_) (fun c_4 => ?_)
  · refine V_iconst (v := (0 : Int32)) X (by decide) dX8_likeness_11 ?_
    refine V_istore_n (ls' := [(3, .int (0 : Int32)), (0, .ref o), (1, .int x), (2, .int y)]) X (by decide) rfl dX8_likeness_12 ?_
    refine V_iconst (v := (0 : Int32)) X (by decide) dX8_likeness_13 ?_
    refine V_istore (ls' := [(4, .int (0 : Int32)), (3, .int (0 : Int32)), (0, .ref o), (1, .int x), (2, .int y)]) X (by decide) rfl dX8_likeness_14 ?_
    refine V_iload X 0 rfl dX8_likeness_16 ?_
    refine V_iconst (v := (2 : Int32)) X (by decide) dX8_likeness_18 ?_
    refine V_icmp_gt X (show (0 : Int32).toInt = 0 from by decide) (show (2 : Int32).toInt = 2 from by decide) 52 dX8_likeness_19 (by decide) (fun c_19 => absurd c_19 (by decide)) (fun _ => ?_)
    refine V_aload_n X 2 rfl dX8_likeness_22 ?_
    refine V_iload_n X 4 rfl dX8_likeness_23 ?_
    refine V_iload X 0 rfl dX8_likeness_24 ?_
    refine V_callV (C := RX8) (wr := []) (st := []) X (c_X8_partT l D Y o p h sa si z y l2 (0 : Int32) 0 fp T ty (by have h9 : (0 : Int32).toInt = 0 := (show (0 : Int32).toInt = 0 from by decide); omega) h2 (by omega) hT) 2 gX8_likeness_X8_part rfl (by decide +kernel) ⟨rfl, rfl⟩ ⟨Nat.le_of_ble_eq_true rfl, Nat.le_of_ble_eq_true rfl⟩ [0, 1] [] rfl rfl rfl rfl (by decide) (ci := 7) rfl rfl 0 rfl rfl rfl (Nat.le_of_ble_eq_true rfl) ⟨Nat.le_of_ble_eq_true rfl, Nat.le_of_ble_eq_true rfl⟩ dX8_likeness_26 (fun v_26 w_26 h_26 => ?_)
    obtain ⟨r_3, rfl, rfl, htr_4, hh8_5⟩ := h_26
    refine V_to (pc' := 29) (ls' := [(4, .int (0 : Int32)), (3, .int (0 : Int32)), (0, .ref o), (1, .int x), (2, .int y)]) (st' := [.int r_3]) (ws' := [(o, .inr (7, [.ref p, .ref h, .ref sa, .ref si, .int z])), (p, .inl (Y 0, 36, .inl fp))]) ?_ rfl rfl rfl rfl
    refine V_aload_n X 2 rfl dX8_likeness_29 ?_
    refine V_iload_n X 3 rfl dX8_likeness_30 ?_
    refine V_iload X 0 rfl dX8_likeness_31 ?_
    refine V_callV (C := RX8) (wr := []) (st := [.int r_3]) X (c_X8_partT l D Y o p h sa si z x l1 (0 : Int32) 0 fp T tx (by have h9 : (0 : Int32).toInt = 0 := (show (0 : Int32).toInt = 0 from by decide); omega) h1 (by omega) hT) 2 gX8_likeness_X8_part rfl (by decide +kernel) ⟨rfl, rfl⟩ ⟨Nat.le_of_ble_eq_true rfl, Nat.le_of_ble_eq_true rfl⟩ [0, 1] [] rfl rfl rfl rfl (by decide) (ci := 7) rfl rfl 0 rfl rfl rfl (Nat.le_of_ble_eq_true rfl) ⟨Nat.le_of_ble_eq_true rfl, Nat.le_of_ble_eq_true rfl⟩ dX8_likeness_33 (fun v_33 w_33 h_33 => ?_)
    obtain ⟨r_7, rfl, rfl, htr_8, hh8_9⟩ := h_33
    refine V_to (pc' := 36) (ls' := [(4, .int (0 : Int32)), (3, .int (0 : Int32)), (0, .ref o), (1, .int x), (2, .int y)]) (st' := [.int r_7, .int r_3]) (ws' := [(o, .inr (7, [.ref p, .ref h, .ref sa, .ref si, .int z])), (p, .inl (Y 0, 36, .inl fp))]) ?_ rfl rfl rfl rfl
    refine V_icmp_ne X htr_4 htr_8 46 dX8_likeness_36 (by decide) (fun c_36 => ?_) (fun c_36 => ?_)
    · refine V_iincZ X (fun vv_ => [(4, .int vv_), (3, .int (0 : Int32)), (0, .ref o), (1, .int x), (2, .int y)]) (show (0 : Int32).toInt = 0 from by decide) (by omega) (by omega) (by decide) 0 rfl (by decide) (fun _ => rfl) dX8_likeness_46 (fun x_10 ex_10 tx_10 => ?_)
      have tx_10 : x_10.toInt = (((0 + 1) : Nat) : Int) := by omega
      obtain rfl : x_10 = (1 : Int32) := ex_10.trans (by decide)
      refine V_goto X 16 (by decide) dX8_likeness_49 ?_
      refine V_iload X 0 rfl dX8_likeness_16 ?_
      refine V_iconst (v := (2 : Int32)) X (by decide) dX8_likeness_18 ?_
      refine V_icmp_gt X (show (1 : Int32).toInt = 1 from by decide) (show (2 : Int32).toInt = 2 from by decide) 52 dX8_likeness_19 (by decide) (fun c_19 => absurd c_19 (by decide)) (fun _ => ?_)
      refine V_aload_n X 2 rfl dX8_likeness_22 ?_
      refine V_iload_n X 4 rfl dX8_likeness_23 ?_
      refine V_iload X 0 rfl dX8_likeness_24 ?_
      refine V_callV (C := RX8) (wr := []) (st := []) X (c_X8_partT l D Y o p h sa si z y l2 (1 : Int32) 1 fp T ty (by have h9 : (1 : Int32).toInt = 1 := (show (1 : Int32).toInt = 1 from by decide); omega) h2 (by omega) hT) 2 gX8_likeness_X8_part rfl (by decide +kernel) ⟨rfl, rfl⟩ ⟨Nat.le_of_ble_eq_true rfl, Nat.le_of_ble_eq_true rfl⟩ [0, 1] [] rfl rfl rfl rfl (by decide) (ci := 7) rfl rfl 0 rfl rfl rfl (Nat.le_of_ble_eq_true rfl) ⟨Nat.le_of_ble_eq_true rfl, Nat.le_of_ble_eq_true rfl⟩ dX8_likeness_26 (fun v_26 w_26 h_26 => ?_)
      obtain ⟨r_12, rfl, rfl, htr_13, hh8_14⟩ := h_26
      refine V_to (pc' := 29) (ls' := [(4, .int (1 : Int32)), (3, .int (0 : Int32)), (0, .ref o), (1, .int x), (2, .int y)]) (st' := [.int r_12]) (ws' := [(o, .inr (7, [.ref p, .ref h, .ref sa, .ref si, .int z])), (p, .inl (Y 0, 36, .inl fp))]) ?_ rfl rfl rfl rfl
      refine V_aload_n X 2 rfl dX8_likeness_29 ?_
      refine V_iload_n X 3 rfl dX8_likeness_30 ?_
      refine V_iload X 0 rfl dX8_likeness_31 ?_
      refine V_callV (C := RX8) (wr := []) (st := [.int r_12]) X (c_X8_partT l D Y o p h sa si z x l1 (1 : Int32) 1 fp T tx (by have h9 : (1 : Int32).toInt = 1 := (show (1 : Int32).toInt = 1 from by decide); omega) h1 (by omega) hT) 2 gX8_likeness_X8_part rfl (by decide +kernel) ⟨rfl, rfl⟩ ⟨Nat.le_of_ble_eq_true rfl, Nat.le_of_ble_eq_true rfl⟩ [0, 1] [] rfl rfl rfl rfl (by decide) (ci := 7) rfl rfl 0 rfl rfl rfl (Nat.le_of_ble_eq_true rfl) ⟨Nat.le_of_ble_eq_true rfl, Nat.le_of_ble_eq_true rfl⟩ dX8_likeness_33 (fun v_33 w_33 h_33 => ?_)
      obtain ⟨r_16, rfl, rfl, htr_17, hh8_18⟩ := h_33
      refine V_to (pc' := 36) (ls' := [(4, .int (1 : Int32)), (3, .int (0 : Int32)), (0, .ref o), (1, .int x), (2, .int y)]) (st' := [.int r_16, .int r_12]) (ws' := [(o, .inr (7, [.ref p, .ref h, .ref sa, .ref si, .int z])), (p, .inl (Y 0, 36, .inl fp))]) ?_ rfl rfl rfl rfl
      refine V_icmp_ne X htr_13 htr_17 46 dX8_likeness_36 (by decide) (fun c_36 => ?_) (fun c_36 => ?_)
      · refine V_iincZ X (fun vv_ => [(4, .int vv_), (3, .int (0 : Int32)), (0, .ref o), (1, .int x), (2, .int y)]) (show (1 : Int32).toInt = 1 from by decide) (by omega) (by omega) (by decide) 0 rfl (by decide) (fun _ => rfl) dX8_likeness_46 (fun x_19 ex_19 tx_19 => ?_)
        have tx_19 : x_19.toInt = (((1 + 1) : Nat) : Int) := by omega
        obtain rfl : x_19 = (2 : Int32) := ex_19.trans (by decide)
        refine V_goto X 16 (by decide) dX8_likeness_49 ?_
        refine V_iload X 0 rfl dX8_likeness_16 ?_
        refine V_iconst (v := (2 : Int32)) X (by decide) dX8_likeness_18 ?_
        refine V_icmp_gt X (show (2 : Int32).toInt = 2 from by decide) (show (2 : Int32).toInt = 2 from by decide) 52 dX8_likeness_19 (by decide) (fun c_19 => absurd c_19 (by decide)) (fun _ => ?_)
        refine V_aload_n X 2 rfl dX8_likeness_22 ?_
        refine V_iload_n X 4 rfl dX8_likeness_23 ?_
        refine V_iload X 0 rfl dX8_likeness_24 ?_
        refine V_callV (C := RX8) (wr := []) (st := []) X (c_X8_partT l D Y o p h sa si z y l2 (2 : Int32) 2 fp T ty (by have h9 : (2 : Int32).toInt = 2 := (show (2 : Int32).toInt = 2 from by decide); omega) h2 (by omega) hT) 2 gX8_likeness_X8_part rfl (by decide +kernel) ⟨rfl, rfl⟩ ⟨Nat.le_of_ble_eq_true rfl, Nat.le_of_ble_eq_true rfl⟩ [0, 1] [] rfl rfl rfl rfl (by decide) (ci := 7) rfl rfl 0 rfl rfl rfl (Nat.le_of_ble_eq_true rfl) ⟨Nat.le_of_ble_eq_true rfl, Nat.le_of_ble_eq_true rfl⟩ dX8_likeness_26 (fun v_26 w_26 h_26 => ?_)
        obtain ⟨r_21, rfl, rfl, htr_22, hh8_23⟩ := h_26
        refine V_to (pc' := 29) (ls' := [(4, .int (2 : Int32)), (3, .int (0 : Int32)), (0, .ref o), (1, .int x), (2, .int y)]) (st' := [.int r_21]) (ws' := [(o, .inr (7, [.ref p, .ref h, .ref sa, .ref si, .int z])), (p, .inl (Y 0, 36, .inl fp))]) ?_ rfl rfl rfl rfl
        refine V_aload_n X 2 rfl dX8_likeness_29 ?_
        refine V_iload_n X 3 rfl dX8_likeness_30 ?_
        refine V_iload X 0 rfl dX8_likeness_31 ?_
        refine V_callV (C := RX8) (wr := []) (st := [.int r_21]) X (c_X8_partT l D Y o p h sa si z x l1 (2 : Int32) 2 fp T tx (by have h9 : (2 : Int32).toInt = 2 := (show (2 : Int32).toInt = 2 from by decide); omega) h1 (by omega) hT) 2 gX8_likeness_X8_part rfl (by decide +kernel) ⟨rfl, rfl⟩ ⟨Nat.le_of_ble_eq_true rfl, Nat.le_of_ble_eq_true rfl⟩ [0, 1] [] rfl rfl rfl rfl (by decide) (ci := 7) rfl rfl 0 rfl rfl rfl (Nat.le_of_ble_eq_true rfl) ⟨Nat.le_of_ble_eq_true rfl, Nat.le_of_ble_eq_true rfl⟩ dX8_likeness_33 (fun v_33 w_33 h_33 => ?_)
        obtain ⟨r_25, rfl, rfl, htr_26, hh8_27⟩ := h_33
        refine V_to (pc' := 36) (ls' := [(4, .int (2 : Int32)), (3, .int (0 : Int32)), (0, .ref o), (1, .int x), (2, .int y)]) (st' := [.int r_25, .int r_21]) (ws' := [(o, .inr (7, [.ref p, .ref h, .ref sa, .ref si, .int z])), (p, .inl (Y 0, 36, .inl fp))]) ?_ rfl rfl rfl rfl
        refine V_icmp_ne X htr_22 htr_26 46 dX8_likeness_36 (by decide) (fun c_36 => ?_) (fun c_36 => ?_)
        · refine V_iincZ X (fun vv_ => [(4, .int vv_), (3, .int (0 : Int32)), (0, .ref o), (1, .int x), (2, .int y)]) (show (2 : Int32).toInt = 2 from by decide) (by omega) (by omega) (by decide) 0 rfl (by decide) (fun _ => rfl) dX8_likeness_46 (fun x_28 ex_28 tx_28 => ?_)
          have tx_28 : x_28.toInt = (((2 + 1) : Nat) : Int) := by omega
          obtain rfl : x_28 = (3 : Int32) := ex_28.trans (by decide)
          refine V_goto X 16 (by decide) dX8_likeness_49 ?_
          refine V_iload X 0 rfl dX8_likeness_16 ?_
          refine V_iconst (v := (2 : Int32)) X (by decide) dX8_likeness_18 ?_
          refine V_icmp_gt X (show (3 : Int32).toInt = 3 from by decide) (show (2 : Int32).toInt = 2 from by decide) 52 dX8_likeness_19 (by decide) (fun _ => ?_) (fun c_19 => absurd c_19 (by decide))
          refine V_iload_n X 1 rfl dX8_likeness_52 ?_
          exact V_iret X hr dX8_likeness_53 (⟨(0 : Int32), rfl, rfl, (by rw [show (0 : Int32).toInt = 0 from by decide]; unfold lkT; (repeat' split) <;> omega)⟩)
        · refine V_iload_n X 1 rfl dX8_likeness_39 ?_
          refine V_iconst (v := (2 : Int32)) X (by decide) dX8_likeness_40 ?_
          refine V_iload X 0 rfl dX8_likeness_41 ?_
          refine V_ishl X dX8_likeness_43 (fun x_29 ex_29 => ?_)
          obtain rfl : x_29 = (8 : Int32) := ex_29.trans (by decide)
          refine V_ior X dX8_likeness_44 (fun x_30 ex_30 => ?_)
          obtain rfl : x_30 = (8 : Int32) := ex_30.trans (by decide)
          refine V_istore_n (ls' := [(3, .int (8 : Int32)), (4, .int (2 : Int32)), (0, .ref o), (1, .int x), (2, .int y)]) X (by decide) rfl dX8_likeness_45 ?_
          refine V_iincZ X (fun vv_ => [(4, .int vv_), (3, .int (8 : Int32)), (0, .ref o), (1, .int x), (2, .int y)]) (show (2 : Int32).toInt = 2 from by decide) (by omega) (by omega) (by decide) 1 rfl (by decide) (fun _ => rfl) dX8_likeness_46 (fun x_31 ex_31 tx_31 => ?_)
          have tx_31 : x_31.toInt = (((2 + 1) : Nat) : Int) := by omega
          obtain rfl : x_31 = (3 : Int32) := ex_31.trans (by decide)
          refine V_goto X 16 (by decide) dX8_likeness_49 ?_
          refine V_iload X 0 rfl dX8_likeness_16 ?_
          refine V_iconst (v := (2 : Int32)) X (by decide) dX8_likeness_18 ?_
          refine V_icmp_gt X (show (3 : Int32).toInt = 3 from by decide) (show (2 : Int32).toInt = 2 from by decide) 52 dX8_likeness_19 (by decide) (fun _ => ?_) (fun c_19 => absurd c_19 (by decide))
          refine V_iload_n X 1 rfl dX8_likeness_52 ?_
          exact V_iret X hr dX8_likeness_53 (⟨(8 : Int32), rfl, rfl, (by rw [show (8 : Int32).toInt = 8 from by decide]; unfold lkT; (repeat' split) <;> omega)⟩)
      · refine V_iload_n X 1 rfl dX8_likeness_39 ?_
        refine V_iconst (v := (2 : Int32)) X (by decide) dX8_likeness_40 ?_
        refine V_iload X 0 rfl dX8_likeness_41 ?_
        refine V_ishl X dX8_likeness_43 (fun x_32 ex_32 => ?_)
        obtain rfl : x_32 = (4 : Int32) := ex_32.trans (by decide)
        refine V_ior X dX8_likeness_44 (fun x_33 ex_33 => ?_)
        obtain rfl : x_33 = (4 : Int32) := ex_33.trans (by decide)
        refine V_istore_n (ls' := [(3, .int (4 : Int32)), (4, .int (1 : Int32)), (0, .ref o), (1, .int x), (2, .int y)]) X (by decide) rfl dX8_likeness_45 ?_
        refine V_iincZ X (fun vv_ => [(4, .int vv_), (3, .int (4 : Int32)), (0, .ref o), (1, .int x), (2, .int y)]) (show (1 : Int32).toInt = 1 from by decide) (by omega) (by omega) (by decide) 1 rfl (by decide) (fun _ => rfl) dX8_likeness_46 (fun x_34 ex_34 tx_34 => ?_)
        have tx_34 : x_34.toInt = (((1 + 1) : Nat) : Int) := by omega
        obtain rfl : x_34 = (2 : Int32) := ex_34.trans (by decide)
        refine V_goto X 16 (by decide) dX8_likeness_49 ?_
        refine V_iload X 0 rfl dX8_likeness_16 ?_
        refine V_iconst (v := (2 : Int32)) X (by decide) dX8_likeness_18 ?_
        refine V_icmp_gt X (show (2 : Int32).toInt = 2 from by decide) (show (2 : Int32).toInt = 2 from by decide) 52 dX8_likeness_19 (by decide) (fun c_19 => absurd c_19 (by decide)) (fun _ => ?_)
        refine V_aload_n X 2 rfl dX8_likeness_22 ?_
        refine V_iload_n X 4 rfl dX8_likeness_23 ?_
        refine V_iload X 0 rfl dX8_likeness_24 ?_
        refine V_callV (C := RX8) (wr := []) (st := []) X (c_X8_partT l D Y o p h sa si z y l2 (2 : Int32) 2 fp T ty (by have h9 : (2 : Int32).toInt = 2 := (show (2 : Int32).toInt = 2 from by decide); omega) h2 (by omega) hT) 2 gX8_likeness_X8_part rfl (by decide +kernel) ⟨rfl, rfl⟩ ⟨Nat.le_of_ble_eq_true rfl, Nat.le_of_ble_eq_true rfl⟩ [0, 1] [] rfl rfl rfl rfl (by decide) (ci := 7) rfl rfl 0 rfl rfl rfl (Nat.le_of_ble_eq_true rfl) ⟨Nat.le_of_ble_eq_true rfl, Nat.le_of_ble_eq_true rfl⟩ dX8_likeness_26 (fun v_26 w_26 h_26 => ?_)
        obtain ⟨r_36, rfl, rfl, htr_37, hh8_38⟩ := h_26
        refine V_to (pc' := 29) (ls' := [(4, .int (2 : Int32)), (3, .int (4 : Int32)), (0, .ref o), (1, .int x), (2, .int y)]) (st' := [.int r_36]) (ws' := [(o, .inr (7, [.ref p, .ref h, .ref sa, .ref si, .int z])), (p, .inl (Y 0, 36, .inl fp))]) ?_ rfl rfl rfl rfl
        refine V_aload_n X 2 rfl dX8_likeness_29 ?_
        refine V_iload_n X 3 rfl dX8_likeness_30 ?_
        refine V_iload X 0 rfl dX8_likeness_31 ?_
        refine V_callV (C := RX8) (wr := []) (st := [.int r_36]) X (c_X8_partT l D Y o p h sa si z x l1 (2 : Int32) 2 fp T tx (by have h9 : (2 : Int32).toInt = 2 := (show (2 : Int32).toInt = 2 from by decide); omega) h1 (by omega) hT) 2 gX8_likeness_X8_part rfl (by decide +kernel) ⟨rfl, rfl⟩ ⟨Nat.le_of_ble_eq_true rfl, Nat.le_of_ble_eq_true rfl⟩ [0, 1] [] rfl rfl rfl rfl (by decide) (ci := 7) rfl rfl 0 rfl rfl rfl (Nat.le_of_ble_eq_true rfl) ⟨Nat.le_of_ble_eq_true rfl, Nat.le_of_ble_eq_true rfl⟩ dX8_likeness_33 (fun v_33 w_33 h_33 => ?_)
        obtain ⟨r_40, rfl, rfl, htr_41, hh8_42⟩ := h_33
        refine V_to (pc' := 36) (ls' := [(4, .int (2 : Int32)), (3, .int (4 : Int32)), (0, .ref o), (1, .int x), (2, .int y)]) (st' := [.int r_40, .int r_36]) (ws' := [(o, .inr (7, [.ref p, .ref h, .ref sa, .ref si, .int z])), (p, .inl (Y 0, 36, .inl fp))]) ?_ rfl rfl rfl rfl
        refine V_icmp_ne X htr_37 htr_41 46 dX8_likeness_36 (by decide) (fun c_36 => ?_) (fun c_36 => ?_)
        · refine V_iincZ X (fun vv_ => [(4, .int vv_), (3, .int (4 : Int32)), (0, .ref o), (1, .int x), (2, .int y)]) (show (2 : Int32).toInt = 2 from by decide) (by omega) (by omega) (by decide) 0 rfl (by decide) (fun _ => rfl) dX8_likeness_46 (fun x_43 ex_43 tx_43 => ?_)
          have tx_43 : x_43.toInt = (((2 + 1) : Nat) : Int) := by omega
          obtain rfl : x_43 = (3 : Int32) := ex_43.trans (by decide)
          refine V_goto X 16 (by decide) dX8_likeness_49 ?_
          refine V_iload X 0 rfl dX8_likeness_16 ?_
          refine V_iconst (v := (2 : Int32)) X (by decide) dX8_likeness_18 ?_
          refine V_icmp_gt X (show (3 : Int32).toInt = 3 from by decide) (show (2 : Int32).toInt = 2 from by decide) 52 dX8_likeness_19 (by decide) (fun _ => ?_) (fun c_19 => absurd c_19 (by decide))
          refine V_iload_n X 1 rfl dX8_likeness_52 ?_
          exact V_iret X hr dX8_likeness_53 (⟨(4 : Int32), rfl, rfl, (by rw [show (4 : Int32).toInt = 4 from by decide]; unfold lkT; (repeat' split) <;> omega)⟩)
        · refine V_iload_n X 1 rfl dX8_likeness_39 ?_
          refine V_iconst (v := (2 : Int32)) X (by decide) dX8_likeness_40 ?_
          refine V_iload X 0 rfl dX8_likeness_41 ?_
          refine V_ishl X dX8_likeness_43 (fun x_44 ex_44 => ?_)
          obtain rfl : x_44 = (8 : Int32) := ex_44.trans (by decide)
          refine V_ior X dX8_likeness_44 (fun x_45 ex_45 => ?_)
          obtain rfl : x_45 = (12 : Int32) := ex_45.trans (by decide)
          refine V_istore_n (ls' := [(3, .int (12 : Int32)), (4, .int (2 : Int32)), (0, .ref o), (1, .int x), (2, .int y)]) X (by decide) rfl dX8_likeness_45 ?_
          refine V_iincZ X (fun vv_ => [(4, .int vv_), (3, .int (12 : Int32)), (0, .ref o), (1, .int x), (2, .int y)]) (show (2 : Int32).toInt = 2 from by decide) (by omega) (by omega) (by decide) 1 rfl (by decide) (fun _ => rfl) dX8_likeness_46 (fun x_46 ex_46 tx_46 => ?_)
          have tx_46 : x_46.toInt = (((2 + 1) : Nat) : Int) := by omega
          obtain rfl : x_46 = (3 : Int32) := ex_46.trans (by decide)
          refine V_goto X 16 (by decide) dX8_likeness_49 ?_
          refine V_iload X 0 rfl dX8_likeness_16 ?_
          refine V_iconst (v := (2 : Int32)) X (by decide) dX8_likeness_18 ?_
          refine V_icmp_gt X (show (3 : Int32).toInt = 3 from by decide) (show (2 : Int32).toInt = 2 from by decide) 52 dX8_likeness_19 (by decide) (fun _ => ?_) (fun c_19 => absurd c_19 (by decide))
          refine V_iload_n X 1 rfl dX8_likeness_52 ?_
          exact V_iret X hr dX8_likeness_53 (⟨(12 : Int32), rfl, rfl, (by rw [show (12 : Int32).toInt = 12 from by decide]; unfold lkT; (repeat' split) <;> omega)⟩)
    · refine V_iload_n X 1 rfl dX8_likeness_39 ?_
      refine V_iconst (v := (2 : Int32)) X (by decide) dX8_likeness_40 ?_
      refine V_iload X 0 rfl dX8_likeness_41 ?_
      refine V_ishl X dX8_likeness_43 (fun x_47 ex_47 => ?_)
      obtain rfl : x_47 = (2 : Int32) := ex_47.trans (by decide)
      refine V_ior X dX8_likeness_44 (fun x_48 ex_48 => ?_)
      obtain rfl : x_48 = (2 : Int32) := ex_48.trans (by decide)
      refine V_istore_n (ls' := [(3, .int (2 : Int32)), (4, .int (0 : Int32)), (0, .ref o), (1, .int x), (2, .int y)]) X (by decide) rfl dX8_likeness_45 ?_
      refine V_iincZ X (fun vv_ => [(4, .int vv_), (3, .int (2 : Int32)), (0, .ref o), (1, .int x), (2, .int y)]) (show (0 : Int32).toInt = 0 from by decide) (by omega) (by omega) (by decide) 1 rfl (by decide) (fun _ => rfl) dX8_likeness_46 (fun x_49 ex_49 tx_49 => ?_)
      have tx_49 : x_49.toInt = (((0 + 1) : Nat) : Int) := by omega
      obtain rfl : x_49 = (1 : Int32) := ex_49.trans (by decide)
      refine V_goto X 16 (by decide) dX8_likeness_49 ?_
      refine V_iload X 0 rfl dX8_likeness_16 ?_
      refine V_iconst (v := (2 : Int32)) X (by decide) dX8_likeness_18 ?_
      refine V_icmp_gt X (show (1 : Int32).toInt = 1 from by decide) (show (2 : Int32).toInt = 2 from by decide) 52 dX8_likeness_19 (by decide) (fun c_19 => absurd c_19 (by decide)) (fun _ => ?_)
      refine V_aload_n X 2 rfl dX8_likeness_22 ?_
      refine V_iload_n X 4 rfl dX8_likeness_23 ?_
      refine V_iload X 0 rfl dX8_likeness_24 ?_
      refine V_callV (C := RX8) (wr := []) (st := []) X (c_X8_partT l D Y o p h sa si z y l2 (1 : Int32) 1 fp T ty (by have h9 : (1 : Int32).toInt = 1 := (show (1 : Int32).toInt = 1 from by decide); omega) h2 (by omega) hT) 2 gX8_likeness_X8_part rfl (by decide +kernel) ⟨rfl, rfl⟩ ⟨Nat.le_of_ble_eq_true rfl, Nat.le_of_ble_eq_true rfl⟩ [0, 1] [] rfl rfl rfl rfl (by decide) (ci := 7) rfl rfl 0 rfl rfl rfl (Nat.le_of_ble_eq_true rfl) ⟨Nat.le_of_ble_eq_true rfl, Nat.le_of_ble_eq_true rfl⟩ dX8_likeness_26 (fun v_26 w_26 h_26 => ?_)
      obtain ⟨r_51, rfl, rfl, htr_52, hh8_53⟩ := h_26
      refine V_to (pc' := 29) (ls' := [(4, .int (1 : Int32)), (3, .int (2 : Int32)), (0, .ref o), (1, .int x), (2, .int y)]) (st' := [.int r_51]) (ws' := [(o, .inr (7, [.ref p, .ref h, .ref sa, .ref si, .int z])), (p, .inl (Y 0, 36, .inl fp))]) ?_ rfl rfl rfl rfl
      refine V_aload_n X 2 rfl dX8_likeness_29 ?_
      refine V_iload_n X 3 rfl dX8_likeness_30 ?_
      refine V_iload X 0 rfl dX8_likeness_31 ?_
      refine V_callV (C := RX8) (wr := []) (st := [.int r_51]) X (c_X8_partT l D Y o p h sa si z x l1 (1 : Int32) 1 fp T tx (by have h9 : (1 : Int32).toInt = 1 := (show (1 : Int32).toInt = 1 from by decide); omega) h1 (by omega) hT) 2 gX8_likeness_X8_part rfl (by decide +kernel) ⟨rfl, rfl⟩ ⟨Nat.le_of_ble_eq_true rfl, Nat.le_of_ble_eq_true rfl⟩ [0, 1] [] rfl rfl rfl rfl (by decide) (ci := 7) rfl rfl 0 rfl rfl rfl (Nat.le_of_ble_eq_true rfl) ⟨Nat.le_of_ble_eq_true rfl, Nat.le_of_ble_eq_true rfl⟩ dX8_likeness_33 (fun v_33 w_33 h_33 => ?_)
      obtain ⟨r_55, rfl, rfl, htr_56, hh8_57⟩ := h_33
      refine V_to (pc' := 36) (ls' := [(4, .int (1 : Int32)), (3, .int (2 : Int32)), (0, .ref o), (1, .int x), (2, .int y)]) (st' := [.int r_55, .int r_51]) (ws' := [(o, .inr (7, [.ref p, .ref h, .ref sa, .ref si, .int z])), (p, .inl (Y 0, 36, .inl fp))]) ?_ rfl rfl rfl rfl
      refine V_icmp_ne X htr_52 htr_56 46 dX8_likeness_36 (by decide) (fun c_36 => ?_) (fun c_36 => ?_)
      · refine V_iincZ X (fun vv_ => [(4, .int vv_), (3, .int (2 : Int32)), (0, .ref o), (1, .int x), (2, .int y)]) (show (1 : Int32).toInt = 1 from by decide) (by omega) (by omega) (by decide) 0 rfl (by decide) (fun _ => rfl) dX8_likeness_46 (fun x_58 ex_58 tx_58 => ?_)
        have tx_58 : x_58.toInt = (((1 + 1) : Nat) : Int) := by omega
        obtain rfl : x_58 = (2 : Int32) := ex_58.trans (by decide)
        refine V_goto X 16 (by decide) dX8_likeness_49 ?_
        refine V_iload X 0 rfl dX8_likeness_16 ?_
        refine V_iconst (v := (2 : Int32)) X (by decide) dX8_likeness_18 ?_
        refine V_icmp_gt X (show (2 : Int32).toInt = 2 from by decide) (show (2 : Int32).toInt = 2 from by decide) 52 dX8_likeness_19 (by decide) (fun c_19 => absurd c_19 (by decide)) (fun _ => ?_)
        refine V_aload_n X 2 rfl dX8_likeness_22 ?_
        refine V_iload_n X 4 rfl dX8_likeness_23 ?_
        refine V_iload X 0 rfl dX8_likeness_24 ?_
        refine V_callV (C := RX8) (wr := []) (st := []) X (c_X8_partT l D Y o p h sa si z y l2 (2 : Int32) 2 fp T ty (by have h9 : (2 : Int32).toInt = 2 := (show (2 : Int32).toInt = 2 from by decide); omega) h2 (by omega) hT) 2 gX8_likeness_X8_part rfl (by decide +kernel) ⟨rfl, rfl⟩ ⟨Nat.le_of_ble_eq_true rfl, Nat.le_of_ble_eq_true rfl⟩ [0, 1] [] rfl rfl rfl rfl (by decide) (ci := 7) rfl rfl 0 rfl rfl rfl (Nat.le_of_ble_eq_true rfl) ⟨Nat.le_of_ble_eq_true rfl, Nat.le_of_ble_eq_true rfl⟩ dX8_likeness_26 (fun v_26 w_26 h_26 => ?_)
        obtain ⟨r_60, rfl, rfl, htr_61, hh8_62⟩ := h_26
        refine V_to (pc' := 29) (ls' := [(4, .int (2 : Int32)), (3, .int (2 : Int32)), (0, .ref o), (1, .int x), (2, .int y)]) (st' := [.int r_60]) (ws' := [(o, .inr (7, [.ref p, .ref h, .ref sa, .ref si, .int z])), (p, .inl (Y 0, 36, .inl fp))]) ?_ rfl rfl rfl rfl
        refine V_aload_n X 2 rfl dX8_likeness_29 ?_
        refine V_iload_n X 3 rfl dX8_likeness_30 ?_
        refine V_iload X 0 rfl dX8_likeness_31 ?_
        refine V_callV (C := RX8) (wr := []) (st := [.int r_60]) X (c_X8_partT l D Y o p h sa si z x l1 (2 : Int32) 2 fp T tx (by have h9 : (2 : Int32).toInt = 2 := (show (2 : Int32).toInt = 2 from by decide); omega) h1 (by omega) hT) 2 gX8_likeness_X8_part rfl (by decide +kernel) ⟨rfl, rfl⟩ ⟨Nat.le_of_ble_eq_true rfl, Nat.le_of_ble_eq_true rfl⟩ [0, 1] [] rfl rfl rfl rfl (by decide) (ci := 7) rfl rfl 0 rfl rfl rfl (Nat.le_of_ble_eq_true rfl) ⟨Nat.le_of_ble_eq_true rfl, Nat.le_of_ble_eq_true rfl⟩ dX8_likeness_33 (fun v_33 w_33 h_33 => ?_)
        obtain ⟨r_64, rfl, rfl, htr_65, hh8_66⟩ := h_33
        refine V_to (pc' := 36) (ls' := [(4, .int (2 : Int32)), (3, .int (2 : Int32)), (0, .ref o), (1, .int x), (2, .int y)]) (st' := [.int r_64, .int r_60]) (ws' := [(o, .inr (7, [.ref p, .ref h, .ref sa, .ref si, .int z])), (p, .inl (Y 0, 36, .inl fp))]) ?_ rfl rfl rfl rfl
        refine V_icmp_ne X htr_61 htr_65 46 dX8_likeness_36 (by decide) (fun c_36 => ?_) (fun c_36 => ?_)
        · refine V_iincZ X (fun vv_ => [(4, .int vv_), (3, .int (2 : Int32)), (0, .ref o), (1, .int x), (2, .int y)]) (show (2 : Int32).toInt = 2 from by decide) (by omega) (by omega) (by decide) 0 rfl (by decide) (fun _ => rfl) dX8_likeness_46 (fun x_67 ex_67 tx_67 => ?_)
          have tx_67 : x_67.toInt = (((2 + 1) : Nat) : Int) := by omega
          obtain rfl : x_67 = (3 : Int32) := ex_67.trans (by decide)
          refine V_goto X 16 (by decide) dX8_likeness_49 ?_
          refine V_iload X 0 rfl dX8_likeness_16 ?_
          refine V_iconst (v := (2 : Int32)) X (by decide) dX8_likeness_18 ?_
          refine V_icmp_gt X (show (3 : Int32).toInt = 3 from by decide) (show (2 : Int32).toInt = 2 from by decide) 52 dX8_likeness_19 (by decide) (fun _ => ?_) (fun c_19 => absurd c_19 (by decide))
          refine V_iload_n X 1 rfl dX8_likeness_52 ?_
          exact V_iret X hr dX8_likeness_53 (⟨(2 : Int32), rfl, rfl, (by rw [show (2 : Int32).toInt = 2 from by decide]; unfold lkT; (repeat' split) <;> omega)⟩)
        · refine V_iload_n X 1 rfl dX8_likeness_39 ?_
          refine V_iconst (v := (2 : Int32)) X (by decide) dX8_likeness_40 ?_
          refine V_iload X 0 rfl dX8_likeness_41 ?_
          refine V_ishl X dX8_likeness_43 (fun x_68 ex_68 => ?_)
          obtain rfl : x_68 = (8 : Int32) := ex_68.trans (by decide)
          refine V_ior X dX8_likeness_44 (fun x_69 ex_69 => ?_)
          obtain rfl : x_69 = (10 : Int32) := ex_69.trans (by decide)
          refine V_istore_n (ls' := [(3, .int (10 : Int32)), (4, .int (2 : Int32)), (0, .ref o), (1, .int x), (2, .int y)]) X (by decide) rfl dX8_likeness_45 ?_
          refine V_iincZ X (fun vv_ => [(4, .int vv_), (3, .int (10 : Int32)), (0, .ref o), (1, .int x), (2, .int y)]) (show (2 : Int32).toInt = 2 from by decide) (by omega) (by omega) (by decide) 1 rfl (by decide) (fun _ => rfl) dX8_likeness_46 (fun x_70 ex_70 tx_70 => ?_)
          have tx_70 : x_70.toInt = (((2 + 1) : Nat) : Int) := by omega
          obtain rfl : x_70 = (3 : Int32) := ex_70.trans (by decide)
          refine V_goto X 16 (by decide) dX8_likeness_49 ?_
          refine V_iload X 0 rfl dX8_likeness_16 ?_
          refine V_iconst (v := (2 : Int32)) X (by decide) dX8_likeness_18 ?_
          refine V_icmp_gt X (show (3 : Int32).toInt = 3 from by decide) (show (2 : Int32).toInt = 2 from by decide) 52 dX8_likeness_19 (by decide) (fun _ => ?_) (fun c_19 => absurd c_19 (by decide))
          refine V_iload_n X 1 rfl dX8_likeness_52 ?_
          exact V_iret X hr dX8_likeness_53 (⟨(10 : Int32), rfl, rfl, (by rw [show (10 : Int32).toInt = 10 from by decide]; unfold lkT; (repeat' split) <;> omega)⟩)
      · refine V_iload_n X 1 rfl dX8_likeness_39 ?_
        refine V_iconst (v := (2 : Int32)) X (by decide) dX8_likeness_40 ?_
        refine V_iload X 0 rfl dX8_likeness_41 ?_
        refine V_ishl X dX8_likeness_43 (fun x_71 ex_71 => ?_)
        obtain rfl : x_71 = (4 : Int32) := ex_71.trans (by decide)
        refine V_ior X dX8_likeness_44 (fun x_72 ex_72 => ?_)
        obtain rfl : x_72 = (6 : Int32) := ex_72.trans (by decide)
        refine V_istore_n (ls' := [(3, .int (6 : Int32)), (4, .int (1 : Int32)), (0, .ref o), (1, .int x), (2, .int y)]) X (by decide) rfl dX8_likeness_45 ?_
        refine V_iincZ X (fun vv_ => [(4, .int vv_), (3, .int (6 : Int32)), (0, .ref o), (1, .int x), (2, .int y)]) (show (1 : Int32).toInt = 1 from by decide) (by omega) (by omega) (by decide) 1 rfl (by decide) (fun _ => rfl) dX8_likeness_46 (fun x_73 ex_73 tx_73 => ?_)
        have tx_73 : x_73.toInt = (((1 + 1) : Nat) : Int) := by omega
        obtain rfl : x_73 = (2 : Int32) := ex_73.trans (by decide)
        refine V_goto X 16 (by decide) dX8_likeness_49 ?_
        refine V_iload X 0 rfl dX8_likeness_16 ?_
        refine V_iconst (v := (2 : Int32)) X (by decide) dX8_likeness_18 ?_
        refine V_icmp_gt X (show (2 : Int32).toInt = 2 from by decide) (show (2 : Int32).toInt = 2 from by decide) 52 dX8_likeness_19 (by decide) (fun c_19 => absurd c_19 (by decide)) (fun _ => ?_)
        refine V_aload_n X 2 rfl dX8_likeness_22 ?_
        refine V_iload_n X 4 rfl dX8_likeness_23 ?_
        refine V_iload X 0 rfl dX8_likeness_24 ?_
        refine V_callV (C := RX8) (wr := []) (st := []) X (c_X8_partT l D Y o p h sa si z y l2 (2 : Int32) 2 fp T ty (by have h9 : (2 : Int32).toInt = 2 := (show (2 : Int32).toInt = 2 from by decide); omega) h2 (by omega) hT) 2 gX8_likeness_X8_part rfl (by decide +kernel) ⟨rfl, rfl⟩ ⟨Nat.le_of_ble_eq_true rfl, Nat.le_of_ble_eq_true rfl⟩ [0, 1] [] rfl rfl rfl rfl (by decide) (ci := 7) rfl rfl 0 rfl rfl rfl (Nat.le_of_ble_eq_true rfl) ⟨Nat.le_of_ble_eq_true rfl, Nat.le_of_ble_eq_true rfl⟩ dX8_likeness_26 (fun v_26 w_26 h_26 => ?_)
        obtain ⟨r_75, rfl, rfl, htr_76, hh8_77⟩ := h_26
        refine V_to (pc' := 29) (ls' := [(4, .int (2 : Int32)), (3, .int (6 : Int32)), (0, .ref o), (1, .int x), (2, .int y)]) (st' := [.int r_75]) (ws' := [(o, .inr (7, [.ref p, .ref h, .ref sa, .ref si, .int z])), (p, .inl (Y 0, 36, .inl fp))]) ?_ rfl rfl rfl rfl
        refine V_aload_n X 2 rfl dX8_likeness_29 ?_
        refine V_iload_n X 3 rfl dX8_likeness_30 ?_
        refine V_iload X 0 rfl dX8_likeness_31 ?_
        refine V_callV (C := RX8) (wr := []) (st := [.int r_75]) X (c_X8_partT l D Y o p h sa si z x l1 (2 : Int32) 2 fp T tx (by have h9 : (2 : Int32).toInt = 2 := (show (2 : Int32).toInt = 2 from by decide); omega) h1 (by omega) hT) 2 gX8_likeness_X8_part rfl (by decide +kernel) ⟨rfl, rfl⟩ ⟨Nat.le_of_ble_eq_true rfl, Nat.le_of_ble_eq_true rfl⟩ [0, 1] [] rfl rfl rfl rfl (by decide) (ci := 7) rfl rfl 0 rfl rfl rfl (Nat.le_of_ble_eq_true rfl) ⟨Nat.le_of_ble_eq_true rfl, Nat.le_of_ble_eq_true rfl⟩ dX8_likeness_33 (fun v_33 w_33 h_33 => ?_)
        obtain ⟨r_79, rfl, rfl, htr_80, hh8_81⟩ := h_33
        refine V_to (pc' := 36) (ls' := [(4, .int (2 : Int32)), (3, .int (6 : Int32)), (0, .ref o), (1, .int x), (2, .int y)]) (st' := [.int r_79, .int r_75]) (ws' := [(o, .inr (7, [.ref p, .ref h, .ref sa, .ref si, .int z])), (p, .inl (Y 0, 36, .inl fp))]) ?_ rfl rfl rfl rfl
        refine V_icmp_ne X htr_76 htr_80 46 dX8_likeness_36 (by decide) (fun c_36 => ?_) (fun c_36 => ?_)
        · refine V_iincZ X (fun vv_ => [(4, .int vv_), (3, .int (6 : Int32)), (0, .ref o), (1, .int x), (2, .int y)]) (show (2 : Int32).toInt = 2 from by decide) (by omega) (by omega) (by decide) 0 rfl (by decide) (fun _ => rfl) dX8_likeness_46 (fun x_82 ex_82 tx_82 => ?_)
          have tx_82 : x_82.toInt = (((2 + 1) : Nat) : Int) := by omega
          obtain rfl : x_82 = (3 : Int32) := ex_82.trans (by decide)
          refine V_goto X 16 (by decide) dX8_likeness_49 ?_
          refine V_iload X 0 rfl dX8_likeness_16 ?_
          refine V_iconst (v := (2 : Int32)) X (by decide) dX8_likeness_18 ?_
          refine V_icmp_gt X (show (3 : Int32).toInt = 3 from by decide) (show (2 : Int32).toInt = 2 from by decide) 52 dX8_likeness_19 (by decide) (fun _ => ?_) (fun c_19 => absurd c_19 (by decide))
          refine V_iload_n X 1 rfl dX8_likeness_52 ?_
          exact V_iret X hr dX8_likeness_53 (⟨(6 : Int32), rfl, rfl, (by rw [show (6 : Int32).toInt = 6 from by decide]; unfold lkT; (repeat' split) <;> omega)⟩)
        · refine V_iload_n X 1 rfl dX8_likeness_39 ?_
          refine V_iconst (v := (2 : Int32)) X (by decide) dX8_likeness_40 ?_
          refine V_iload X 0 rfl dX8_likeness_41 ?_
          refine V_ishl X dX8_likeness_43 (fun x_83 ex_83 => ?_)
          obtain rfl : x_83 = (8 : Int32) := ex_83.trans (by decide)
          refine V_ior X dX8_likeness_44 (fun x_84 ex_84 => ?_)
          obtain rfl : x_84 = (14 : Int32) := ex_84.trans (by decide)
          refine V_istore_n (ls' := [(3, .int (14 : Int32)), (4, .int (2 : Int32)), (0, .ref o), (1, .int x), (2, .int y)]) X (by decide) rfl dX8_likeness_45 ?_
          refine V_iincZ X (fun vv_ => [(4, .int vv_), (3, .int (14 : Int32)), (0, .ref o), (1, .int x), (2, .int y)]) (show (2 : Int32).toInt = 2 from by decide) (by omega) (by omega) (by decide) 1 rfl (by decide) (fun _ => rfl) dX8_likeness_46 (fun x_85 ex_85 tx_85 => ?_)
          have tx_85 : x_85.toInt = (((2 + 1) : Nat) : Int) := by omega
          obtain rfl : x_85 = (3 : Int32) := ex_85.trans (by decide)
          refine V_goto X 16 (by decide) dX8_likeness_49 ?_
          refine V_iload X 0 rfl dX8_likeness_16 ?_
          refine V_iconst (v := (2 : Int32)) X (by decide) dX8_likeness_18 ?_
          refine V_icmp_gt X (show (3 : Int32).toInt = 3 from by decide) (show (2 : Int32).toInt = 2 from by decide) 52 dX8_likeness_19 (by decide) (fun _ => ?_) (fun c_19 => absurd c_19 (by decide))
          refine V_iload_n X 1 rfl dX8_likeness_52 ?_
          exact V_iret X hr dX8_likeness_53 (⟨(14 : Int32), rfl, rfl, (by rw [show (14 : Int32).toInt = 14 from by decide]; unfold lkT; (repeat' split) <;> omega)⟩)
  · refine V_iconst (v := (1 : Int32)) X (by decide) dX8_likeness_7 ?_
    refine V_goto X 12 (by decide) dX8_likeness_8 ?_
    refine V_istore_n (ls' := [(3, .int (1 : Int32)), (0, .ref o), (1, .int x), (2, .int y)]) X (by decide) rfl dX8_likeness_12 ?_
    refine V_iconst (v := (0 : Int32)) X (by decide) dX8_likeness_13 ?_
    refine V_istore (ls' := [(4, .int (0 : Int32)), (3, .int (1 : Int32)), (0, .ref o), (1, .int x), (2, .int y)]) X (by decide) rfl dX8_likeness_14 ?_
    refine V_iload X 0 rfl dX8_likeness_16 ?_
    refine V_iconst (v := (2 : Int32)) X (by decide) dX8_likeness_18 ?_
    refine V_icmp_gt X (show (0 : Int32).toInt = 0 from by decide) (show (2 : Int32).toInt = 2 from by decide) 52 dX8_likeness_19 (by decide) (fun c_19 => absurd c_19 (by decide)) (fun _ => ?_)
    refine V_aload_n X 2 rfl dX8_likeness_22 ?_
    refine V_iload_n X 4 rfl dX8_likeness_23 ?_
    refine V_iload X 0 rfl dX8_likeness_24 ?_
    refine V_callV (C := RX8) (wr := []) (st := []) X (c_X8_partT l D Y o p h sa si z y l2 (0 : Int32) 0 fp T ty (by have h9 : (0 : Int32).toInt = 0 := (show (0 : Int32).toInt = 0 from by decide); omega) h2 (by omega) hT) 2 gX8_likeness_X8_part rfl (by decide +kernel) ⟨rfl, rfl⟩ ⟨Nat.le_of_ble_eq_true rfl, Nat.le_of_ble_eq_true rfl⟩ [0, 1] [] rfl rfl rfl rfl (by decide) (ci := 7) rfl rfl 0 rfl rfl rfl (Nat.le_of_ble_eq_true rfl) ⟨Nat.le_of_ble_eq_true rfl, Nat.le_of_ble_eq_true rfl⟩ dX8_likeness_26 (fun v_26 w_26 h_26 => ?_)
    obtain ⟨r_87, rfl, rfl, htr_88, hh8_89⟩ := h_26
    refine V_to (pc' := 29) (ls' := [(4, .int (0 : Int32)), (3, .int (1 : Int32)), (0, .ref o), (1, .int x), (2, .int y)]) (st' := [.int r_87]) (ws' := [(o, .inr (7, [.ref p, .ref h, .ref sa, .ref si, .int z])), (p, .inl (Y 0, 36, .inl fp))]) ?_ rfl rfl rfl rfl
    refine V_aload_n X 2 rfl dX8_likeness_29 ?_
    refine V_iload_n X 3 rfl dX8_likeness_30 ?_
    refine V_iload X 0 rfl dX8_likeness_31 ?_
    refine V_callV (C := RX8) (wr := []) (st := [.int r_87]) X (c_X8_partT l D Y o p h sa si z x l1 (0 : Int32) 0 fp T tx (by have h9 : (0 : Int32).toInt = 0 := (show (0 : Int32).toInt = 0 from by decide); omega) h1 (by omega) hT) 2 gX8_likeness_X8_part rfl (by decide +kernel) ⟨rfl, rfl⟩ ⟨Nat.le_of_ble_eq_true rfl, Nat.le_of_ble_eq_true rfl⟩ [0, 1] [] rfl rfl rfl rfl (by decide) (ci := 7) rfl rfl 0 rfl rfl rfl (Nat.le_of_ble_eq_true rfl) ⟨Nat.le_of_ble_eq_true rfl, Nat.le_of_ble_eq_true rfl⟩ dX8_likeness_33 (fun v_33 w_33 h_33 => ?_)
    obtain ⟨r_91, rfl, rfl, htr_92, hh8_93⟩ := h_33
    refine V_to (pc' := 36) (ls' := [(4, .int (0 : Int32)), (3, .int (1 : Int32)), (0, .ref o), (1, .int x), (2, .int y)]) (st' := [.int r_91, .int r_87]) (ws' := [(o, .inr (7, [.ref p, .ref h, .ref sa, .ref si, .int z])), (p, .inl (Y 0, 36, .inl fp))]) ?_ rfl rfl rfl rfl
    refine V_icmp_ne X htr_88 htr_92 46 dX8_likeness_36 (by decide) (fun c_36 => ?_) (fun c_36 => ?_)
    · refine V_iincZ X (fun vv_ => [(4, .int vv_), (3, .int (1 : Int32)), (0, .ref o), (1, .int x), (2, .int y)]) (show (0 : Int32).toInt = 0 from by decide) (by omega) (by omega) (by decide) 0 rfl (by decide) (fun _ => rfl) dX8_likeness_46 (fun x_94 ex_94 tx_94 => ?_)
      have tx_94 : x_94.toInt = (((0 + 1) : Nat) : Int) := by omega
      obtain rfl : x_94 = (1 : Int32) := ex_94.trans (by decide)
      refine V_goto X 16 (by decide) dX8_likeness_49 ?_
      refine V_iload X 0 rfl dX8_likeness_16 ?_
      refine V_iconst (v := (2 : Int32)) X (by decide) dX8_likeness_18 ?_
      refine V_icmp_gt X (show (1 : Int32).toInt = 1 from by decide) (show (2 : Int32).toInt = 2 from by decide) 52 dX8_likeness_19 (by decide) (fun c_19 => absurd c_19 (by decide)) (fun _ => ?_)
      refine V_aload_n X 2 rfl dX8_likeness_22 ?_
      refine V_iload_n X 4 rfl dX8_likeness_23 ?_
      refine V_iload X 0 rfl dX8_likeness_24 ?_
      refine V_callV (C := RX8) (wr := []) (st := []) X (c_X8_partT l D Y o p h sa si z y l2 (1 : Int32) 1 fp T ty (by have h9 : (1 : Int32).toInt = 1 := (show (1 : Int32).toInt = 1 from by decide); omega) h2 (by omega) hT) 2 gX8_likeness_X8_part rfl (by decide +kernel) ⟨rfl, rfl⟩ ⟨Nat.le_of_ble_eq_true rfl, Nat.le_of_ble_eq_true rfl⟩ [0, 1] [] rfl rfl rfl rfl (by decide) (ci := 7) rfl rfl 0 rfl rfl rfl (Nat.le_of_ble_eq_true rfl) ⟨Nat.le_of_ble_eq_true rfl, Nat.le_of_ble_eq_true rfl⟩ dX8_likeness_26 (fun v_26 w_26 h_26 => ?_)
      obtain ⟨r_96, rfl, rfl, htr_97, hh8_98⟩ := h_26
      refine V_to (pc' := 29) (ls' := [(4, .int (1 : Int32)), (3, .int (1 : Int32)), (0, .ref o), (1, .int x), (2, .int y)]) (st' := [.int r_96]) (ws' := [(o, .inr (7, [.ref p, .ref h, .ref sa, .ref si, .int z])), (p, .inl (Y 0, 36, .inl fp))]) ?_ rfl rfl rfl rfl
      refine V_aload_n X 2 rfl dX8_likeness_29 ?_
      refine V_iload_n X 3 rfl dX8_likeness_30 ?_
      refine V_iload X 0 rfl dX8_likeness_31 ?_
      refine V_callV (C := RX8) (wr := []) (st := [.int r_96]) X (c_X8_partT l D Y o p h sa si z x l1 (1 : Int32) 1 fp T tx (by have h9 : (1 : Int32).toInt = 1 := (show (1 : Int32).toInt = 1 from by decide); omega) h1 (by omega) hT) 2 gX8_likeness_X8_part rfl (by decide +kernel) ⟨rfl, rfl⟩ ⟨Nat.le_of_ble_eq_true rfl, Nat.le_of_ble_eq_true rfl⟩ [0, 1] [] rfl rfl rfl rfl (by decide) (ci := 7) rfl rfl 0 rfl rfl rfl (Nat.le_of_ble_eq_true rfl) ⟨Nat.le_of_ble_eq_true rfl, Nat.le_of_ble_eq_true rfl⟩ dX8_likeness_33 (fun v_33 w_33 h_33 => ?_)
      obtain ⟨r_100, rfl, rfl, htr_101, hh8_102⟩ := h_33
      refine V_to (pc' := 36) (ls' := [(4, .int (1 : Int32)), (3, .int (1 : Int32)), (0, .ref o), (1, .int x), (2, .int y)]) (st' := [.int r_100, .int r_96]) (ws' := [(o, .inr (7, [.ref p, .ref h, .ref sa, .ref si, .int z])), (p, .inl (Y 0, 36, .inl fp))]) ?_ rfl rfl rfl rfl
      refine V_icmp_ne X htr_97 htr_101 46 dX8_likeness_36 (by decide) (fun c_36 => ?_) (fun c_36 => ?_)
      · refine V_iincZ X (fun vv_ => [(4, .int vv_), (3, .int (1 : Int32)), (0, .ref o), (1, .int x), (2, .int y)]) (show (1 : Int32).toInt = 1 from by decide) (by omega) (by omega) (by decide) 0 rfl (by decide) (fun _ => rfl) dX8_likeness_46 (fun x_103 ex_103 tx_103 => ?_)
        have tx_103 : x_103.toInt = (((1 + 1) : Nat) : Int) := by omega
        obtain rfl : x_103 = (2 : Int32) := ex_103.trans (by decide)
        refine V_goto X 16 (by decide) dX8_likeness_49 ?_
        refine V_iload X 0 rfl dX8_likeness_16 ?_
        refine V_iconst (v := (2 : Int32)) X (by decide) dX8_likeness_18 ?_
        refine V_icmp_gt X (show (2 : Int32).toInt = 2 from by decide) (show (2 : Int32).toInt = 2 from by decide) 52 dX8_likeness_19 (by decide) (fun c_19 => absurd c_19 (by decide)) (fun _ => ?_)
        refine V_aload_n X 2 rfl dX8_likeness_22 ?_
        refine V_iload_n X 4 rfl dX8_likeness_23 ?_
        refine V_iload X 0 rfl dX8_likeness_24 ?_
        refine V_callV (C := RX8) (wr := []) (st := []) X (c_X8_partT l D Y o p h sa si z y l2 (2 : Int32) 2 fp T ty (by have h9 : (2 : Int32).toInt = 2 := (show (2 : Int32).toInt = 2 from by decide); omega) h2 (by omega) hT) 2 gX8_likeness_X8_part rfl (by decide +kernel) ⟨rfl, rfl⟩ ⟨Nat.le_of_ble_eq_true rfl, Nat.le_of_ble_eq_true rfl⟩ [0, 1] [] rfl rfl rfl rfl (by decide) (ci := 7) rfl rfl 0 rfl rfl rfl (Nat.le_of_ble_eq_true rfl) ⟨Nat.le_of_ble_eq_true rfl, Nat.le_of_ble_eq_true rfl⟩ dX8_likeness_26 (fun v_26 w_26 h_26 => ?_)
        obtain ⟨r_105, rfl, rfl, htr_106, hh8_107⟩ := h_26
        refine V_to (pc' := 29) (ls' := [(4, .int (2 : Int32)), (3, .int (1 : Int32)), (0, .ref o), (1, .int x), (2, .int y)]) (st' := [.int r_105]) (ws' := [(o, .inr (7, [.ref p, .ref h, .ref sa, .ref si, .int z])), (p, .inl (Y 0, 36, .inl fp))]) ?_ rfl rfl rfl rfl
        refine V_aload_n X 2 rfl dX8_likeness_29 ?_
        refine V_iload_n X 3 rfl dX8_likeness_30 ?_
        refine V_iload X 0 rfl dX8_likeness_31 ?_
        refine V_callV (C := RX8) (wr := []) (st := [.int r_105]) X (c_X8_partT l D Y o p h sa si z x l1 (2 : Int32) 2 fp T tx (by have h9 : (2 : Int32).toInt = 2 := (show (2 : Int32).toInt = 2 from by decide); omega) h1 (by omega) hT) 2 gX8_likeness_X8_part rfl (by decide +kernel) ⟨rfl, rfl⟩ ⟨Nat.le_of_ble_eq_true rfl, Nat.le_of_ble_eq_true rfl⟩ [0, 1] [] rfl rfl rfl rfl (by decide) (ci := 7) rfl rfl 0 rfl rfl rfl (Nat.le_of_ble_eq_true rfl) ⟨Nat.le_of_ble_eq_true rfl, Nat.le_of_ble_eq_true rfl⟩ dX8_likeness_33 (fun v_33 w_33 h_33 => ?_)
        obtain ⟨r_109, rfl, rfl, htr_110, hh8_111⟩ := h_33
        refine V_to (pc' := 36) (ls' := [(4, .int (2 : Int32)), (3, .int (1 : Int32)), (0, .ref o), (1, .int x), (2, .int y)]) (st' := [.int r_109, .int r_105]) (ws' := [(o, .inr (7, [.ref p, .ref h, .ref sa, .ref si, .int z])), (p, .inl (Y 0, 36, .inl fp))]) ?_ rfl rfl rfl rfl
        refine V_icmp_ne X htr_106 htr_110 46 dX8_likeness_36 (by decide) (fun c_36 => ?_) (fun c_36 => ?_)
        · refine V_iincZ X (fun vv_ => [(4, .int vv_), (3, .int (1 : Int32)), (0, .ref o), (1, .int x), (2, .int y)]) (show (2 : Int32).toInt = 2 from by decide) (by omega) (by omega) (by decide) 0 rfl (by decide) (fun _ => rfl) dX8_likeness_46 (fun x_112 ex_112 tx_112 => ?_)
          have tx_112 : x_112.toInt = (((2 + 1) : Nat) : Int) := by omega
          obtain rfl : x_112 = (3 : Int32) := ex_112.trans (by decide)
          refine V_goto X 16 (by decide) dX8_likeness_49 ?_
          refine V_iload X 0 rfl dX8_likeness_16 ?_
          refine V_iconst (v := (2 : Int32)) X (by decide) dX8_likeness_18 ?_
          refine V_icmp_gt X (show (3 : Int32).toInt = 3 from by decide) (show (2 : Int32).toInt = 2 from by decide) 52 dX8_likeness_19 (by decide) (fun _ => ?_) (fun c_19 => absurd c_19 (by decide))
          refine V_iload_n X 1 rfl dX8_likeness_52 ?_
          exact V_iret X hr dX8_likeness_53 (⟨(1 : Int32), rfl, rfl, (by rw [show (1 : Int32).toInt = 1 from by decide]; unfold lkT; (repeat' split) <;> omega)⟩)
        · refine V_iload_n X 1 rfl dX8_likeness_39 ?_
          refine V_iconst (v := (2 : Int32)) X (by decide) dX8_likeness_40 ?_
          refine V_iload X 0 rfl dX8_likeness_41 ?_
          refine V_ishl X dX8_likeness_43 (fun x_113 ex_113 => ?_)
          obtain rfl : x_113 = (8 : Int32) := ex_113.trans (by decide)
          refine V_ior X dX8_likeness_44 (fun x_114 ex_114 => ?_)
          obtain rfl : x_114 = (9 : Int32) := ex_114.trans (by decide)
          refine V_istore_n (ls' := [(3, .int (9 : Int32)), (4, .int (2 : Int32)), (0, .ref o), (1, .int x), (2, .int y)]) X (by decide) rfl dX8_likeness_45 ?_
          refine V_iincZ X (fun vv_ => [(4, .int vv_), (3, .int (9 : Int32)), (0, .ref o), (1, .int x), (2, .int y)]) (show (2 : Int32).toInt = 2 from by decide) (by omega) (by omega) (by decide) 1 rfl (by decide) (fun _ => rfl) dX8_likeness_46 (fun x_115 ex_115 tx_115 => ?_)
          have tx_115 : x_115.toInt = (((2 + 1) : Nat) : Int) := by omega
          obtain rfl : x_115 = (3 : Int32) := ex_115.trans (by decide)
          refine V_goto X 16 (by decide) dX8_likeness_49 ?_
          refine V_iload X 0 rfl dX8_likeness_16 ?_
          refine V_iconst (v := (2 : Int32)) X (by decide) dX8_likeness_18 ?_
          refine V_icmp_gt X (show (3 : Int32).toInt = 3 from by decide) (show (2 : Int32).toInt = 2 from by decide) 52 dX8_likeness_19 (by decide) (fun _ => ?_) (fun c_19 => absurd c_19 (by decide))
          refine V_iload_n X 1 rfl dX8_likeness_52 ?_
          exact V_iret X hr dX8_likeness_53 (⟨(9 : Int32), rfl, rfl, (by rw [show (9 : Int32).toInt = 9 from by decide]; unfold lkT; (repeat' split) <;> omega)⟩)
      · refine V_iload_n X 1 rfl dX8_likeness_39 ?_
        refine V_iconst (v := (2 : Int32)) X (by decide) dX8_likeness_40 ?_
        refine V_iload X 0 rfl dX8_likeness_41 ?_
        refine V_ishl X dX8_likeness_43 (fun x_116 ex_116 => ?_)
        obtain rfl : x_116 = (4 : Int32) := ex_116.trans (by decide)
        refine V_ior X dX8_likeness_44 (fun x_117 ex_117 => ?_)
        obtain rfl : x_117 = (5 : Int32) := ex_117.trans (by decide)
        refine V_istore_n (ls' := [(3, .int (5 : Int32)), (4, .int (1 : Int32)), (0, .ref o), (1, .int x), (2, .int y)]) X (by decide) rfl dX8_likeness_45 ?_
        refine V_iincZ X (fun vv_ => [(4, .int vv_), (3, .int (5 : Int32)), (0, .ref o), (1, .int x), (2, .int y)]) (show (1 : Int32).toInt = 1 from by decide) (by omega) (by omega) (by decide) 1 rfl (by decide) (fun _ => rfl) dX8_likeness_46 (fun x_118 ex_118 tx_118 => ?_)
        have tx_118 : x_118.toInt = (((1 + 1) : Nat) : Int) := by omega
        obtain rfl : x_118 = (2 : Int32) := ex_118.trans (by decide)
        refine V_goto X 16 (by decide) dX8_likeness_49 ?_
        refine V_iload X 0 rfl dX8_likeness_16 ?_
        refine V_iconst (v := (2 : Int32)) X (by decide) dX8_likeness_18 ?_
        refine V_icmp_gt X (show (2 : Int32).toInt = 2 from by decide) (show (2 : Int32).toInt = 2 from by decide) 52 dX8_likeness_19 (by decide) (fun c_19 => absurd c_19 (by decide)) (fun _ => ?_)
        refine V_aload_n X 2 rfl dX8_likeness_22 ?_
        refine V_iload_n X 4 rfl dX8_likeness_23 ?_
        refine V_iload X 0 rfl dX8_likeness_24 ?_
        refine V_callV (C := RX8) (wr := []) (st := []) X (c_X8_partT l D Y o p h sa si z y l2 (2 : Int32) 2 fp T ty (by have h9 : (2 : Int32).toInt = 2 := (show (2 : Int32).toInt = 2 from by decide); omega) h2 (by omega) hT) 2 gX8_likeness_X8_part rfl (by decide +kernel) ⟨rfl, rfl⟩ ⟨Nat.le_of_ble_eq_true rfl, Nat.le_of_ble_eq_true rfl⟩ [0, 1] [] rfl rfl rfl rfl (by decide) (ci := 7) rfl rfl 0 rfl rfl rfl (Nat.le_of_ble_eq_true rfl) ⟨Nat.le_of_ble_eq_true rfl, Nat.le_of_ble_eq_true rfl⟩ dX8_likeness_26 (fun v_26 w_26 h_26 => ?_)
        obtain ⟨r_120, rfl, rfl, htr_121, hh8_122⟩ := h_26
        refine V_to (pc' := 29) (ls' := [(4, .int (2 : Int32)), (3, .int (5 : Int32)), (0, .ref o), (1, .int x), (2, .int y)]) (st' := [.int r_120]) (ws' := [(o, .inr (7, [.ref p, .ref h, .ref sa, .ref si, .int z])), (p, .inl (Y 0, 36, .inl fp))]) ?_ rfl rfl rfl rfl
        refine V_aload_n X 2 rfl dX8_likeness_29 ?_
        refine V_iload_n X 3 rfl dX8_likeness_30 ?_
        refine V_iload X 0 rfl dX8_likeness_31 ?_
        refine V_callV (C := RX8) (wr := []) (st := [.int r_120]) X (c_X8_partT l D Y o p h sa si z x l1 (2 : Int32) 2 fp T tx (by have h9 : (2 : Int32).toInt = 2 := (show (2 : Int32).toInt = 2 from by decide); omega) h1 (by omega) hT) 2 gX8_likeness_X8_part rfl (by decide +kernel) ⟨rfl, rfl⟩ ⟨Nat.le_of_ble_eq_true rfl, Nat.le_of_ble_eq_true rfl⟩ [0, 1] [] rfl rfl rfl rfl (by decide) (ci := 7) rfl rfl 0 rfl rfl rfl (Nat.le_of_ble_eq_true rfl) ⟨Nat.le_of_ble_eq_true rfl, Nat.le_of_ble_eq_true rfl⟩ dX8_likeness_33 (fun v_33 w_33 h_33 => ?_)
        obtain ⟨r_124, rfl, rfl, htr_125, hh8_126⟩ := h_33
        refine V_to (pc' := 36) (ls' := [(4, .int (2 : Int32)), (3, .int (5 : Int32)), (0, .ref o), (1, .int x), (2, .int y)]) (st' := [.int r_124, .int r_120]) (ws' := [(o, .inr (7, [.ref p, .ref h, .ref sa, .ref si, .int z])), (p, .inl (Y 0, 36, .inl fp))]) ?_ rfl rfl rfl rfl
        refine V_icmp_ne X htr_121 htr_125 46 dX8_likeness_36 (by decide) (fun c_36 => ?_) (fun c_36 => ?_)
        · refine V_iincZ X (fun vv_ => [(4, .int vv_), (3, .int (5 : Int32)), (0, .ref o), (1, .int x), (2, .int y)]) (show (2 : Int32).toInt = 2 from by decide) (by omega) (by omega) (by decide) 0 rfl (by decide) (fun _ => rfl) dX8_likeness_46 (fun x_127 ex_127 tx_127 => ?_)
          have tx_127 : x_127.toInt = (((2 + 1) : Nat) : Int) := by omega
          obtain rfl : x_127 = (3 : Int32) := ex_127.trans (by decide)
          refine V_goto X 16 (by decide) dX8_likeness_49 ?_
          refine V_iload X 0 rfl dX8_likeness_16 ?_
          refine V_iconst (v := (2 : Int32)) X (by decide) dX8_likeness_18 ?_
          refine V_icmp_gt X (show (3 : Int32).toInt = 3 from by decide) (show (2 : Int32).toInt = 2 from by decide) 52 dX8_likeness_19 (by decide) (fun _ => ?_) (fun c_19 => absurd c_19 (by decide))
          refine V_iload_n X 1 rfl dX8_likeness_52 ?_
          exact V_iret X hr dX8_likeness_53 (⟨(5 : Int32), rfl, rfl, (by rw [show (5 : Int32).toInt = 5 from by decide]; unfold lkT; (repeat' split) <;> omega)⟩)
        · refine V_iload_n X 1 rfl dX8_likeness_39 ?_
          refine V_iconst (v := (2 : Int32)) X (by decide) dX8_likeness_40 ?_
          refine V_iload X 0 rfl dX8_likeness_41 ?_
          refine V_ishl X dX8_likeness_43 (fun x_128 ex_128 => ?_)
          obtain rfl : x_128 = (8 : Int32) := ex_128.trans (by decide)
          refine V_ior X dX8_likeness_44 (fun x_129 ex_129 => ?_)
          obtain rfl : x_129 = (13 : Int32) := ex_129.trans (by decide)
          refine V_istore_n (ls' := [(3, .int (13 : Int32)), (4, .int (2 : Int32)), (0, .ref o), (1, .int x), (2, .int y)]) X (by decide) rfl dX8_likeness_45 ?_
          refine V_iincZ X (fun vv_ => [(4, .int vv_), (3, .int (13 : Int32)), (0, .ref o), (1, .int x), (2, .int y)]) (show (2 : Int32).toInt = 2 from by decide) (by omega) (by omega) (by decide) 1 rfl (by decide) (fun _ => rfl) dX8_likeness_46 (fun x_130 ex_130 tx_130 => ?_)
          have tx_130 : x_130.toInt = (((2 + 1) : Nat) : Int) := by omega
          obtain rfl : x_130 = (3 : Int32) := ex_130.trans (by decide)
          refine V_goto X 16 (by decide) dX8_likeness_49 ?_
          refine V_iload X 0 rfl dX8_likeness_16 ?_
          refine V_iconst (v := (2 : Int32)) X (by decide) dX8_likeness_18 ?_
          refine V_icmp_gt X (show (3 : Int32).toInt = 3 from by decide) (show (2 : Int32).toInt = 2 from by decide) 52 dX8_likeness_19 (by decide) (fun _ => ?_) (fun c_19 => absurd c_19 (by decide))
          refine V_iload_n X 1 rfl dX8_likeness_52 ?_
          exact V_iret X hr dX8_likeness_53 (⟨(13 : Int32), rfl, rfl, (by rw [show (13 : Int32).toInt = 13 from by decide]; unfold lkT; (repeat' split) <;> omega)⟩)
    · refine V_iload_n X 1 rfl dX8_likeness_39 ?_
      refine V_iconst (v := (2 : Int32)) X (by decide) dX8_likeness_40 ?_
      refine V_iload X 0 rfl dX8_likeness_41 ?_
      refine V_ishl X dX8_likeness_43 (fun x_131 ex_131 => ?_)
      obtain rfl : x_131 = (2 : Int32) := ex_131.trans (by decide)
      refine V_ior X dX8_likeness_44 (fun x_132 ex_132 => ?_)
      obtain rfl : x_132 = (3 : Int32) := ex_132.trans (by decide)
      refine V_istore_n (ls' := [(3, .int (3 : Int32)), (4, .int (0 : Int32)), (0, .ref o), (1, .int x), (2, .int y)]) X (by decide) rfl dX8_likeness_45 ?_
      refine V_iincZ X (fun vv_ => [(4, .int vv_), (3, .int (3 : Int32)), (0, .ref o), (1, .int x), (2, .int y)]) (show (0 : Int32).toInt = 0 from by decide) (by omega) (by omega) (by decide) 1 rfl (by decide) (fun _ => rfl) dX8_likeness_46 (fun x_133 ex_133 tx_133 => ?_)
      have tx_133 : x_133.toInt = (((0 + 1) : Nat) : Int) := by omega
      obtain rfl : x_133 = (1 : Int32) := ex_133.trans (by decide)
      refine V_goto X 16 (by decide) dX8_likeness_49 ?_
      refine V_iload X 0 rfl dX8_likeness_16 ?_
      refine V_iconst (v := (2 : Int32)) X (by decide) dX8_likeness_18 ?_
      refine V_icmp_gt X (show (1 : Int32).toInt = 1 from by decide) (show (2 : Int32).toInt = 2 from by decide) 52 dX8_likeness_19 (by decide) (fun c_19 => absurd c_19 (by decide)) (fun _ => ?_)
      refine V_aload_n X 2 rfl dX8_likeness_22 ?_
      refine V_iload_n X 4 rfl dX8_likeness_23 ?_
      refine V_iload X 0 rfl dX8_likeness_24 ?_
      refine V_callV (C := RX8) (wr := []) (st := []) X (c_X8_partT l D Y o p h sa si z y l2 (1 : Int32) 1 fp T ty (by have h9 : (1 : Int32).toInt = 1 := (show (1 : Int32).toInt = 1 from by decide); omega) h2 (by omega) hT) 2 gX8_likeness_X8_part rfl (by decide +kernel) ⟨rfl, rfl⟩ ⟨Nat.le_of_ble_eq_true rfl, Nat.le_of_ble_eq_true rfl⟩ [0, 1] [] rfl rfl rfl rfl (by decide) (ci := 7) rfl rfl 0 rfl rfl rfl (Nat.le_of_ble_eq_true rfl) ⟨Nat.le_of_ble_eq_true rfl, Nat.le_of_ble_eq_true rfl⟩ dX8_likeness_26 (fun v_26 w_26 h_26 => ?_)
      obtain ⟨r_135, rfl, rfl, htr_136, hh8_137⟩ := h_26
      refine V_to (pc' := 29) (ls' := [(4, .int (1 : Int32)), (3, .int (3 : Int32)), (0, .ref o), (1, .int x), (2, .int y)]) (st' := [.int r_135]) (ws' := [(o, .inr (7, [.ref p, .ref h, .ref sa, .ref si, .int z])), (p, .inl (Y 0, 36, .inl fp))]) ?_ rfl rfl rfl rfl
      refine V_aload_n X 2 rfl dX8_likeness_29 ?_
      refine V_iload_n X 3 rfl dX8_likeness_30 ?_
      refine V_iload X 0 rfl dX8_likeness_31 ?_
      refine V_callV (C := RX8) (wr := []) (st := [.int r_135]) X (c_X8_partT l D Y o p h sa si z x l1 (1 : Int32) 1 fp T tx (by have h9 : (1 : Int32).toInt = 1 := (show (1 : Int32).toInt = 1 from by decide); omega) h1 (by omega) hT) 2 gX8_likeness_X8_part rfl (by decide +kernel) ⟨rfl, rfl⟩ ⟨Nat.le_of_ble_eq_true rfl, Nat.le_of_ble_eq_true rfl⟩ [0, 1] [] rfl rfl rfl rfl (by decide) (ci := 7) rfl rfl 0 rfl rfl rfl (Nat.le_of_ble_eq_true rfl) ⟨Nat.le_of_ble_eq_true rfl, Nat.le_of_ble_eq_true rfl⟩ dX8_likeness_33 (fun v_33 w_33 h_33 => ?_)
      obtain ⟨r_139, rfl, rfl, htr_140, hh8_141⟩ := h_33
      refine V_to (pc' := 36) (ls' := [(4, .int (1 : Int32)), (3, .int (3 : Int32)), (0, .ref o), (1, .int x), (2, .int y)]) (st' := [.int r_139, .int r_135]) (ws' := [(o, .inr (7, [.ref p, .ref h, .ref sa, .ref si, .int z])), (p, .inl (Y 0, 36, .inl fp))]) ?_ rfl rfl rfl rfl
      refine V_icmp_ne X htr_136 htr_140 46 dX8_likeness_36 (by decide) (fun c_36 => ?_) (fun c_36 => ?_)
      · refine V_iincZ X (fun vv_ => [(4, .int vv_), (3, .int (3 : Int32)), (0, .ref o), (1, .int x), (2, .int y)]) (show (1 : Int32).toInt = 1 from by decide) (by omega) (by omega) (by decide) 0 rfl (by decide) (fun _ => rfl) dX8_likeness_46 (fun x_142 ex_142 tx_142 => ?_)
        have tx_142 : x_142.toInt = (((1 + 1) : Nat) : Int) := by omega
        obtain rfl : x_142 = (2 : Int32) := ex_142.trans (by decide)
        refine V_goto X 16 (by decide) dX8_likeness_49 ?_
        refine V_iload X 0 rfl dX8_likeness_16 ?_
        refine V_iconst (v := (2 : Int32)) X (by decide) dX8_likeness_18 ?_
        refine V_icmp_gt X (show (2 : Int32).toInt = 2 from by decide) (show (2 : Int32).toInt = 2 from by decide) 52 dX8_likeness_19 (by decide) (fun c_19 => absurd c_19 (by decide)) (fun _ => ?_)
        refine V_aload_n X 2 rfl dX8_likeness_22 ?_
        refine V_iload_n X 4 rfl dX8_likeness_23 ?_
        refine V_iload X 0 rfl dX8_likeness_24 ?_
        refine V_callV (C := RX8) (wr := []) (st := []) X (c_X8_partT l D Y o p h sa si z y l2 (2 : Int32) 2 fp T ty (by have h9 : (2 : Int32).toInt = 2 := (show (2 : Int32).toInt = 2 from by decide); omega) h2 (by omega) hT) 2 gX8_likeness_X8_part rfl (by decide +kernel) ⟨rfl, rfl⟩ ⟨Nat.le_of_ble_eq_true rfl, Nat.le_of_ble_eq_true rfl⟩ [0, 1] [] rfl rfl rfl rfl (by decide) (ci := 7) rfl rfl 0 rfl rfl rfl (Nat.le_of_ble_eq_true rfl) ⟨Nat.le_of_ble_eq_true rfl, Nat.le_of_ble_eq_true rfl⟩ dX8_likeness_26 (fun v_26 w_26 h_26 => ?_)
        obtain ⟨r_144, rfl, rfl, htr_145, hh8_146⟩ := h_26
        refine V_to (pc' := 29) (ls' := [(4, .int (2 : Int32)), (3, .int (3 : Int32)), (0, .ref o), (1, .int x), (2, .int y)]) (st' := [.int r_144]) (ws' := [(o, .inr (7, [.ref p, .ref h, .ref sa, .ref si, .int z])), (p, .inl (Y 0, 36, .inl fp))]) ?_ rfl rfl rfl rfl
        refine V_aload_n X 2 rfl dX8_likeness_29 ?_
        refine V_iload_n X 3 rfl dX8_likeness_30 ?_
        refine V_iload X 0 rfl dX8_likeness_31 ?_
        refine V_callV (C := RX8) (wr := []) (st := [.int r_144]) X (c_X8_partT l D Y o p h sa si z x l1 (2 : Int32) 2 fp T tx (by have h9 : (2 : Int32).toInt = 2 := (show (2 : Int32).toInt = 2 from by decide); omega) h1 (by omega) hT) 2 gX8_likeness_X8_part rfl (by decide +kernel) ⟨rfl, rfl⟩ ⟨Nat.le_of_ble_eq_true rfl, Nat.le_of_ble_eq_true rfl⟩ [0, 1] [] rfl rfl rfl rfl (by decide) (ci := 7) rfl rfl 0 rfl rfl rfl (Nat.le_of_ble_eq_true rfl) ⟨Nat.le_of_ble_eq_true rfl, Nat.le_of_ble_eq_true rfl⟩ dX8_likeness_33 (fun v_33 w_33 h_33 => ?_)
        obtain ⟨r_148, rfl, rfl, htr_149, hh8_150⟩ := h_33
        refine V_to (pc' := 36) (ls' := [(4, .int (2 : Int32)), (3, .int (3 : Int32)), (0, .ref o), (1, .int x), (2, .int y)]) (st' := [.int r_148, .int r_144]) (ws' := [(o, .inr (7, [.ref p, .ref h, .ref sa, .ref si, .int z])), (p, .inl (Y 0, 36, .inl fp))]) ?_ rfl rfl rfl rfl
        refine V_icmp_ne X htr_145 htr_149 46 dX8_likeness_36 (by decide) (fun c_36 => ?_) (fun c_36 => ?_)
        · refine V_iincZ X (fun vv_ => [(4, .int vv_), (3, .int (3 : Int32)), (0, .ref o), (1, .int x), (2, .int y)]) (show (2 : Int32).toInt = 2 from by decide) (by omega) (by omega) (by decide) 0 rfl (by decide) (fun _ => rfl) dX8_likeness_46 (fun x_151 ex_151 tx_151 => ?_)
          have tx_151 : x_151.toInt = (((2 + 1) : Nat) : Int) := by omega
          obtain rfl : x_151 = (3 : Int32) := ex_151.trans (by decide)
          refine V_goto X 16 (by decide) dX8_likeness_49 ?_
          refine V_iload X 0 rfl dX8_likeness_16 ?_
          refine V_iconst (v := (2 : Int32)) X (by decide) dX8_likeness_18 ?_
          refine V_icmp_gt X (show (3 : Int32).toInt = 3 from by decide) (show (2 : Int32).toInt = 2 from by decide) 52 dX8_likeness_19 (by decide) (fun _ => ?_) (fun c_19 => absurd c_19 (by decide))
          refine V_iload_n X 1 rfl dX8_likeness_52 ?_
          exact V_iret X hr dX8_likeness_53 (⟨(3 : Int32), rfl, rfl, (by rw [show (3 : Int32).toInt = 3 from by decide]; unfold lkT; (repeat' split) <;> omega)⟩)
        · refine V_iload_n X 1 rfl dX8_likeness_39 ?_
          refine V_iconst (v := (2 : Int32)) X (by decide) dX8_likeness_40 ?_
          refine V_iload X 0 rfl dX8_likeness_41 ?_
          refine V_ishl X dX8_likeness_43 (fun x_152 ex_152 => ?_)
          obtain rfl : x_152 = (8 : Int32) := ex_152.trans (by decide)
          refine V_ior X dX8_likeness_44 (fun x_153 ex_153 => ?_)
          obtain rfl : x_153 = (11 : Int32) := ex_153.trans (by decide)
          refine V_istore_n (ls' := [(3, .int (11 : Int32)), (4, .int (2 : Int32)), (0, .ref o), (1, .int x), (2, .int y)]) X (by decide) rfl dX8_likeness_45 ?_
          refine V_iincZ X (fun vv_ => [(4, .int vv_), (3, .int (11 : Int32)), (0, .ref o), (1, .int x), (2, .int y)]) (show (2 : Int32).toInt = 2 from by decide) (by omega) (by omega) (by decide) 1 rfl (by decide) (fun _ => rfl) dX8_likeness_46 (fun x_154 ex_154 tx_154 => ?_)
          have tx_154 : x_154.toInt = (((2 + 1) : Nat) : Int) := by omega
          obtain rfl : x_154 = (3 : Int32) := ex_154.trans (by decide)
          refine V_goto X 16 (by decide) dX8_likeness_49 ?_
          refine V_iload X 0 rfl dX8_likeness_16 ?_
          refine V_iconst (v := (2 : Int32)) X (by decide) dX8_likeness_18 ?_
          refine V_icmp_gt X (show (3 : Int32).toInt = 3 from by decide) (show (2 : Int32).toInt = 2 from by decide) 52 dX8_likeness_19 (by decide) (fun _ => ?_) (fun c_19 => absurd c_19 (by decide))
          refine V_iload_n X 1 rfl dX8_likeness_52 ?_
          exact V_iret X hr dX8_likeness_53 (⟨(11 : Int32), rfl, rfl, (by rw [show (11 : Int32).toInt = 11 from by decide]; unfold lkT; (repeat' split) <;> omega)⟩)
      · refine V_iload_n X 1 rfl dX8_likeness_39 ?_
        refine V_iconst (v := (2 : Int32)) X (by decide) dX8_likeness_40 ?_
        refine V_iload X 0 rfl dX8_likeness_41 ?_
        refine V_ishl X dX8_likeness_43 (fun x_155 ex_155 => ?_)
        obtain rfl : x_155 = (4 : Int32) := ex_155.trans (by decide)
        refine V_ior X dX8_likeness_44 (fun x_156 ex_156 => ?_)
        obtain rfl : x_156 = (7 : Int32) := ex_156.trans (by decide)
        refine V_istore_n (ls' := [(3, .int (7 : Int32)), (4, .int (1 : Int32)), (0, .ref o), (1, .int x), (2, .int y)]) X (by decide) rfl dX8_likeness_45 ?_
        refine V_iincZ X (fun vv_ => [(4, .int vv_), (3, .int (7 : Int32)), (0, .ref o), (1, .int x), (2, .int y)]) (show (1 : Int32).toInt = 1 from by decide) (by omega) (by omega) (by decide) 1 rfl (by decide) (fun _ => rfl) dX8_likeness_46 (fun x_157 ex_157 tx_157 => ?_)
        have tx_157 : x_157.toInt = (((1 + 1) : Nat) : Int) := by omega
        obtain rfl : x_157 = (2 : Int32) := ex_157.trans (by decide)
        refine V_goto X 16 (by decide) dX8_likeness_49 ?_
        refine V_iload X 0 rfl dX8_likeness_16 ?_
        refine V_iconst (v := (2 : Int32)) X (by decide) dX8_likeness_18 ?_
        refine V_icmp_gt X (show (2 : Int32).toInt = 2 from by decide) (show (2 : Int32).toInt = 2 from by decide) 52 dX8_likeness_19 (by decide) (fun c_19 => absurd c_19 (by decide)) (fun _ => ?_)
        refine V_aload_n X 2 rfl dX8_likeness_22 ?_
        refine V_iload_n X 4 rfl dX8_likeness_23 ?_
        refine V_iload X 0 rfl dX8_likeness_24 ?_
        refine V_callV (C := RX8) (wr := []) (st := []) X (c_X8_partT l D Y o p h sa si z y l2 (2 : Int32) 2 fp T ty (by have h9 : (2 : Int32).toInt = 2 := (show (2 : Int32).toInt = 2 from by decide); omega) h2 (by omega) hT) 2 gX8_likeness_X8_part rfl (by decide +kernel) ⟨rfl, rfl⟩ ⟨Nat.le_of_ble_eq_true rfl, Nat.le_of_ble_eq_true rfl⟩ [0, 1] [] rfl rfl rfl rfl (by decide) (ci := 7) rfl rfl 0 rfl rfl rfl (Nat.le_of_ble_eq_true rfl) ⟨Nat.le_of_ble_eq_true rfl, Nat.le_of_ble_eq_true rfl⟩ dX8_likeness_26 (fun v_26 w_26 h_26 => ?_)
        obtain ⟨r_159, rfl, rfl, htr_160, hh8_161⟩ := h_26
        refine V_to (pc' := 29) (ls' := [(4, .int (2 : Int32)), (3, .int (7 : Int32)), (0, .ref o), (1, .int x), (2, .int y)]) (st' := [.int r_159]) (ws' := [(o, .inr (7, [.ref p, .ref h, .ref sa, .ref si, .int z])), (p, .inl (Y 0, 36, .inl fp))]) ?_ rfl rfl rfl rfl
        refine V_aload_n X 2 rfl dX8_likeness_29 ?_
        refine V_iload_n X 3 rfl dX8_likeness_30 ?_
        refine V_iload X 0 rfl dX8_likeness_31 ?_
        refine V_callV (C := RX8) (wr := []) (st := [.int r_159]) X (c_X8_partT l D Y o p h sa si z x l1 (2 : Int32) 2 fp T tx (by have h9 : (2 : Int32).toInt = 2 := (show (2 : Int32).toInt = 2 from by decide); omega) h1 (by omega) hT) 2 gX8_likeness_X8_part rfl (by decide +kernel) ⟨rfl, rfl⟩ ⟨Nat.le_of_ble_eq_true rfl, Nat.le_of_ble_eq_true rfl⟩ [0, 1] [] rfl rfl rfl rfl (by decide) (ci := 7) rfl rfl 0 rfl rfl rfl (Nat.le_of_ble_eq_true rfl) ⟨Nat.le_of_ble_eq_true rfl, Nat.le_of_ble_eq_true rfl⟩ dX8_likeness_33 (fun v_33 w_33 h_33 => ?_)
        obtain ⟨r_163, rfl, rfl, htr_164, hh8_165⟩ := h_33
        refine V_to (pc' := 36) (ls' := [(4, .int (2 : Int32)), (3, .int (7 : Int32)), (0, .ref o), (1, .int x), (2, .int y)]) (st' := [.int r_163, .int r_159]) (ws' := [(o, .inr (7, [.ref p, .ref h, .ref sa, .ref si, .int z])), (p, .inl (Y 0, 36, .inl fp))]) ?_ rfl rfl rfl rfl
        refine V_icmp_ne X htr_160 htr_164 46 dX8_likeness_36 (by decide) (fun c_36 => ?_) (fun c_36 => ?_)
        · refine V_iincZ X (fun vv_ => [(4, .int vv_), (3, .int (7 : Int32)), (0, .ref o), (1, .int x), (2, .int y)]) (show (2 : Int32).toInt = 2 from by decide) (by omega) (by omega) (by decide) 0 rfl (by decide) (fun _ => rfl) dX8_likeness_46 (fun x_166 ex_166 tx_166 => ?_)
          have tx_166 : x_166.toInt = (((2 + 1) : Nat) : Int) := by omega
          obtain rfl : x_166 = (3 : Int32) := ex_166.trans (by decide)
          refine V_goto X 16 (by decide) dX8_likeness_49 ?_
          refine V_iload X 0 rfl dX8_likeness_16 ?_
          refine V_iconst (v := (2 : Int32)) X (by decide) dX8_likeness_18 ?_
          refine V_icmp_gt X (show (3 : Int32).toInt = 3 from by decide) (show (2 : Int32).toInt = 2 from by decide) 52 dX8_likeness_19 (by decide) (fun _ => ?_) (fun c_19 => absurd c_19 (by decide))
          refine V_iload_n X 1 rfl dX8_likeness_52 ?_
          exact V_iret X hr dX8_likeness_53 (⟨(7 : Int32), rfl, rfl, (by rw [show (7 : Int32).toInt = 7 from by decide]; unfold lkT; (repeat' split) <;> omega)⟩)
        · refine V_iload_n X 1 rfl dX8_likeness_39 ?_
          refine V_iconst (v := (2 : Int32)) X (by decide) dX8_likeness_40 ?_
          refine V_iload X 0 rfl dX8_likeness_41 ?_
          refine V_ishl X dX8_likeness_43 (fun x_167 ex_167 => ?_)
          obtain rfl : x_167 = (8 : Int32) := ex_167.trans (by decide)
          refine V_ior X dX8_likeness_44 (fun x_168 ex_168 => ?_)
          obtain rfl : x_168 = (15 : Int32) := ex_168.trans (by decide)
          refine V_istore_n (ls' := [(3, .int (15 : Int32)), (4, .int (2 : Int32)), (0, .ref o), (1, .int x), (2, .int y)]) X (by decide) rfl dX8_likeness_45 ?_
          refine V_iincZ X (fun vv_ => [(4, .int vv_), (3, .int (15 : Int32)), (0, .ref o), (1, .int x), (2, .int y)]) (show (2 : Int32).toInt = 2 from by decide) (by omega) (by omega) (by decide) 1 rfl (by decide) (fun _ => rfl) dX8_likeness_46 (fun x_169 ex_169 tx_169 => ?_)
          have tx_169 : x_169.toInt = (((2 + 1) : Nat) : Int) := by omega
          obtain rfl : x_169 = (3 : Int32) := ex_169.trans (by decide)
          refine V_goto X 16 (by decide) dX8_likeness_49 ?_
          refine V_iload X 0 rfl dX8_likeness_16 ?_
          refine V_iconst (v := (2 : Int32)) X (by decide) dX8_likeness_18 ?_
          refine V_icmp_gt X (show (3 : Int32).toInt = 3 from by decide) (show (2 : Int32).toInt = 2 from by decide) 52 dX8_likeness_19 (by decide) (fun _ => ?_) (fun c_19 => absurd c_19 (by decide))
          refine V_iload_n X 1 rfl dX8_likeness_52 ?_
          exact V_iret X hr dX8_likeness_53 (⟨(15 : Int32), rfl, rfl, (by rw [show (15 : Int32).toInt = 15 from by decide]; unfold lkT; (repeat' split) <;> omega)⟩)
