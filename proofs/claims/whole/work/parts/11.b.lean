set_option maxHeartbeats 4000000 in
set_option maxRecDepth 100000 in
theorem c_J7_fill_53178 (l : Launch) (D : va_G) (Y : Nat → ClassId) (a : Nat) (v : Int32) (N : Nat) (f : Nat → Int32) (hN : N < 2 ^ 31) : Mg l yJ7_fill_53178 wsJ7_fill_53178 ({ frames := 0, cells := 0, slots := 0, locals := 0 }) D Y [(a, .inl (Y 0, N, .inl f))] [.ref a, .int v] 0 0 (fun vv__ ww__ => (∃ (f2 : Nat → Int32), vv__ = none ∧ ww__ = [(a, .inl (Y 0, N, .inl f2))] ∧ (∀ j, j < N → f2 j = v))) := by
  refine Mg_of (cc := cJ7_fill_53178) (maxL := 4) (ret := none) (ls0 := [(0, .ref a), (1, .int v)]) RJ7 (by decide) rfl rfl rfl (Nat.le_of_ble_eq_true rfl) (fun p__ e__ s__ m__ b__ t__ c__ X hr hn => ?_)
  refine V_iconst (v := (0 : Int32)) X (by decide) dJ7_fill_53178_0 ?_
  refine V_istore_n (ls' := [(2, .int (0 : Int32)), (0, .ref a), (1, .int v)]) X (by decide) rfl dJ7_fill_53178_1 ?_
  refine V_aload_n X 1 rfl dJ7_fill_53178_2 ?_
  refine V_alen (v := (nI N)) X 0 0 rfl rfl rfl dJ7_fill_53178_3 ?_
  refine V_istore_n (ls' := [(3, .int (nI N)), (2, .int (0 : Int32)), (0, .ref a), (1, .int v)]) X (by decide) rfl dJ7_fill_53178_4 ?_
  refine V_ls (ls' := [(0, .ref a), (1, .int v), (2, .int (0 : Int32)), (3, .int (nI N))]) [2, 3, 1, 0] rfl ?_
  refine V_to (V_ind3 (fun (i : Int32) (k : Nat) (g : Nat → Int32) => (i.toInt = ((k : Nat) : Int)) ∧ (k ≤ N) ∧ (∀ j, j < k → g j = v)) (fun (i : Int32) (k : Nat) (g : Nat → Int32) => N - k) (fun (i : Int32) (k : Nat) (g : Nat → Int32) => [(0, .ref a), (1, .int v), (2, .int i), (3, .int (nI N))]) (fun (i : Int32) (k : Nat) (g : Nat → Int32) => [(a, .inl (Y 0, N, .inl g))]) (fun i k g hI_5 ih_5 => ?_) (0 : Int32) 0 f ?_) rfl rfl rfl rfl
  · obtain ⟨ti, hk, hg⟩ := hI_5
    refine V_to (ls' := [(0, .ref a), (1, .int v), (2, .int i), (3, .int (nI N))]) (ws' := [(a, .inl (Y 0, N, .inl g))]) ?_ rfl rfl rfl rfl
    refine V_iload_n X 2 rfl dJ7_fill_53178_5 ?_
    refine V_iload_n X 3 rfl dJ7_fill_53178_6 ?_
    refine V_icmp_ge X ti (nI_toInt (by omega)) 20 dJ7_fill_53178_7 (by decide) (fun c_7 => ?_) (fun c_7 => ?_)
    · exact V_vret X hr dJ7_fill_53178_20 (⟨g, rfl, rfl, (fun j hj => hg j (by omega))⟩)
    · refine V_aload_n X 0 rfl dJ7_fill_53178_10 ?_
      refine V_iload_n X 2 rfl dJ7_fill_53178_11 ?_
      refine V_iload_n X 1 rfl dJ7_fill_53178_12 ?_
      refine V_iast (ws' := [(a, .inl (Y 0, N, .inl (upd g k v)))]) X 0 k rfl ti (by omega) rfl dJ7_fill_53178_13 ?_
      refine V_iincZ X (fun vv_ => [(2, .int vv_), (0, .ref a), (1, .int v), (3, .int (nI N))]) ti (by omega) (by omega) (by decide) 2 rfl (by decide) (fun _ => rfl) dJ7_fill_53178_14 (fun x_1 ex_1 tx_1 => ?_)
      have tx_1 : x_1.toInt = (((k + 1) : Nat) : Int) := by omega
      refine V_goto X 5 (by decide) dJ7_fill_53178_17 ?_
      refine V_ls (ls' := [(0, .ref a), (1, .int v), (2, .int x_1), (3, .int (nI N))]) [1, 2, 0, 3] rfl ?_
      exact V_to (ih_5 x_1 (k + 1) (upd g k v) ⟨(by omega), (by omega), (fill_s hg)⟩ (by omega)) rfl rfl rfl rfl
  · exact ⟨(by have h9 : (0 : Int32).toInt = 0 := (show (0 : Int32).toInt = 0 from by decide); omega), (by omega), (fun j hj => absurd hj (Nat.not_lt_zero j))⟩

set_option maxHeartbeats 4000000 in
set_option maxRecDepth 100000 in
theorem c_J7_fill_d0a16 (l : Launch) (D : va_G) (Y : Nat → ClassId) (a : Nat) (v : Int64) (N : Nat) (f : Nat → Int64) (hN : N < 2 ^ 31) : Mg l yJ7_fill_d0a16 wsJ7_fill_d0a16 ({ frames := 0, cells := 0, slots := 0, locals := 0 }) D Y [(a, .inl (Y 1, N, .inr (.inl f)))] [.ref a, .long v] 0 0 (fun vv__ ww__ => (∃ (f2 : Nat → Int64), vv__ = none ∧ ww__ = [(a, .inl (Y 1, N, .inr (.inl f2)))] ∧ (∀ j, j < N → f2 j = v))) := by
  refine Mg_of (cc := cJ7_fill_d0a16) (maxL := 5) (ret := none) (ls0 := [(0, .ref a), (1, .long v)]) RJ7 (by decide) rfl rfl rfl (Nat.le_of_ble_eq_true rfl) (fun p__ e__ s__ m__ b__ t__ c__ X hr hn => ?_)
  refine V_iconst (v := (0 : Int32)) X (by decide) dJ7_fill_d0a16_0 ?_
  refine V_istore_n (ls' := [(3, .int (0 : Int32)), (0, .ref a), (1, .long v)]) X (by decide) rfl dJ7_fill_d0a16_1 ?_
  refine V_aload_n X 1 rfl dJ7_fill_d0a16_2 ?_
  refine V_alen (v := (nI N)) X 0 1 rfl rfl rfl dJ7_fill_d0a16_3 ?_
  refine V_istore (ls' := [(4, .int (nI N)), (3, .int (0 : Int32)), (0, .ref a), (1, .long v)]) X (by decide) rfl dJ7_fill_d0a16_4 ?_
  refine V_ls (ls' := [(0, .ref a), (1, .long v), (3, .int (0 : Int32)), (4, .int (nI N))]) [2, 3, 1, 0] rfl ?_
  refine V_to (V_ind3 (fun (i : Int32) (k : Nat) (g : Nat → Int64) => (i.toInt = ((k : Nat) : Int)) ∧ (k ≤ N) ∧ (∀ j, j < k → g j = v)) (fun (i : Int32) (k : Nat) (g : Nat → Int64) => N - k) (fun (i : Int32) (k : Nat) (g : Nat → Int64) => [(0, .ref a), (1, .long v), (3, .int i), (4, .int (nI N))]) (fun (i : Int32) (k : Nat) (g : Nat → Int64) => [(a, .inl (Y 1, N, .inr (.inl g)))]) (fun i k g hI_6 ih_6 => ?_) (0 : Int32) 0 f ?_) rfl rfl rfl rfl
  · obtain ⟨ti, hk, hg⟩ := hI_6
    refine V_to (ls' := [(0, .ref a), (1, .long v), (3, .int i), (4, .int (nI N))]) (ws' := [(a, .inl (Y 1, N, .inr (.inl g)))]) ?_ rfl rfl rfl rfl
    refine V_iload_n X 2 rfl dJ7_fill_d0a16_6 ?_
    refine V_iload X 3 rfl dJ7_fill_d0a16_7 ?_
    refine V_icmp_ge X ti (nI_toInt (by omega)) 22 dJ7_fill_d0a16_9 (by decide) (fun c_9 => ?_) (fun c_9 => ?_)
    · exact V_vret X hr dJ7_fill_d0a16_22 (⟨g, rfl, rfl, (fun j hj => hg j (by omega))⟩)
    · refine V_aload_n X 0 rfl dJ7_fill_d0a16_12 ?_
      refine V_iload_n X 2 rfl dJ7_fill_d0a16_13 ?_
      refine V_lload_n X 1 rfl dJ7_fill_d0a16_14 ?_
      refine V_last (ws' := [(a, .inl (Y 1, N, .inr (.inl (vp_updL g k v))))]) X 0 k rfl ti (by omega) rfl dJ7_fill_d0a16_15 ?_
      refine V_iincZ X (fun vv_ => [(3, .int vv_), (0, .ref a), (1, .long v), (4, .int (nI N))]) ti (by omega) (by omega) (by decide) 2 rfl (by decide) (fun _ => rfl) dJ7_fill_d0a16_16 (fun x_1 ex_1 tx_1 => ?_)
      have tx_1 : x_1.toInt = (((k + 1) : Nat) : Int) := by omega
      refine V_goto X 6 (by decide) dJ7_fill_d0a16_19 ?_
      refine V_ls (ls' := [(0, .ref a), (1, .long v), (3, .int x_1), (4, .int (nI N))]) [1, 2, 0, 3] rfl ?_
      exact V_to (ih_6 x_1 (k + 1) (vp_updL g k v) ⟨(by omega), (by omega), (fill_sL hg)⟩ (by omega)) rfl rfl rfl rfl
  · exact ⟨(by have h9 : (0 : Int32).toInt = 0 := (show (0 : Int32).toInt = 0 from by decide); omega), (by omega), (fun j hj => absurd hj (Nat.not_lt_zero j))⟩

theorem in_X6_length_X6 : ∀ w ∈ wsX60, w ∈ wsX6_length := fun w h => List.mem_cons_of_mem _ (List.mem_append_right _ h)
set_option maxHeartbeats 4000000 in
set_option maxRecDepth 100000 in
theorem c_X6_length (l : Launch) (D : va_G) (Y : Nat → ClassId) (o : Nat) (c : Nat) (hd : Int32) (bd : Int32) (so : Int32) (le : Int32) : Mg l yX6_length wsX6_length ({ frames := 0, cells := 0, slots := 0, locals := 0 }) D Y [(o, .inr (5, [.ref c, .int hd, .int bd, .int so, .int le]))] [.ref o] 0 0 (fun vv__ ww__ => (vv__ = some (.int le) ∧ ww__ = [(o, .inr (5, [.ref c, .int hd, .int bd, .int so, .int le]))])) := by
  refine Mg_of (cc := cX6_length) (maxL := 1) (ret := (some .int)) (ls0 := [(0, .ref o)]) RX6 (by decide) rfl rfl rfl (Nat.le_of_ble_eq_true rfl) (fun p__ e__ s__ m__ b__ t__ c__ X hr hn => ?_)
  refine V_aload_n X 0 rfl dX6_length_0 ?_
  refine V_get (C := RX6) (T := TX6) (N := 5) (ci := 5) (v := .int le) X in_X6_length_X6 0 rfl rfl 4 (by decide) (List.mem_of_getElem? (i := 1) rfl) rfl rfl dX6_length_1 ?_
  exact V_iret X hr dX6_length_4 (⟨rfl, rfl⟩)

theorem in_X6_bodyHeld_X6 : ∀ w ∈ wsX60, w ∈ wsX6_bodyHeld := fun w h => List.mem_cons_of_mem _ (List.mem_append_right _ h)
set_option maxHeartbeats 4000000 in
set_option maxRecDepth 100000 in
theorem c_X6_bodyHeld (l : Launch) (D : va_G) (Y : Nat → ClassId) (o : Nat) (c : Nat) (hd : Int32) (bd : Int32) (so : Int32) (le : Int32) : Mg l yX6_bodyHeld wsX6_bodyHeld ({ frames := 0, cells := 0, slots := 0, locals := 0 }) D Y [(o, .inr (5, [.ref c, .int hd, .int bd, .int so, .int le]))] [.ref o] 0 0 (fun vv__ ww__ => (vv__ = some (.int bd) ∧ ww__ = [(o, .inr (5, [.ref c, .int hd, .int bd, .int so, .int le]))])) := by
  refine Mg_of (cc := cX6_bodyHeld) (maxL := 1) (ret := (some .int)) (ls0 := [(0, .ref o)]) RX6 (by decide) rfl rfl rfl (Nat.le_of_ble_eq_true rfl) (fun p__ e__ s__ m__ b__ t__ c__ X hr hn => ?_)
  refine V_aload_n X 0 rfl dX6_bodyHeld_0 ?_
  refine V_get (C := RX6) (T := TX6) (N := 5) (ci := 5) (v := .int bd) X in_X6_bodyHeld_X6 0 rfl rfl 2 (by decide) (List.mem_of_getElem? (i := 1) rfl) rfl rfl dX6_bodyHeld_1 ?_
  exact V_iret X hr dX6_bodyHeld_4 (⟨rfl, rfl⟩)

theorem in_X6_isEmpty_X6 : ∀ w ∈ wsX60, w ∈ wsX6_isEmpty := fun w h => List.mem_cons_of_mem _ (List.mem_append_right _ h)
set_option maxHeartbeats 4000000 in
set_option maxRecDepth 100000 in
theorem c_X6_isEmpty (l : Launch) (D : va_G) (Y : Nat → ClassId) (o : Nat) (c : Nat) (hd : Int32) (bd : Int32) (so : Int32) (le : Int32) : Mg l yX6_isEmpty wsX6_isEmpty ({ frames := 0, cells := 0, slots := 0, locals := 0 }) D Y [(o, .inr (5, [.ref c, .int hd, .int bd, .int so, .int le]))] [.ref o] 0 0 (fun vv__ ww__ => (vv__ = some (.int (1 : Int32)) ∧ ww__ = [(o, .inr (5, [.ref c, .int hd, .int bd, .int so, .int le]))] ∧ (hd.toInt = 0)) ∨ (vv__ = some (.int (0 : Int32)) ∧ ww__ = [(o, .inr (5, [.ref c, .int hd, .int bd, .int so, .int le]))] ∧ (hd.toInt ≠ 0))) := by
  refine Mg_of (cc := cX6_isEmpty) (maxL := 1) (ret := (some .boolean)) (ls0 := [(0, .ref o)]) RX6 (by decide) rfl rfl rfl (Nat.le_of_ble_eq_true rfl) (fun p__ e__ s__ m__ b__ t__ c__ X hr hn => ?_)
  refine V_aload_n X 0 rfl dX6_isEmpty_0 ?_
  refine V_get (C := RX6) (T := TX6) (N := 5) (ci := 5) (v := .int hd) X in_X6_isEmpty_X6 0 rfl rfl 1 (by decide) (List.mem_of_getElem? (i := 1) rfl) rfl rfl dX6_isEmpty_1 ?_
  refine V_if_ne X rfl 11 dX6_isEmpty_4 (by decide) (fun c_4 => ?_) (fun c_4 => ?_)
  · refine V_iconst (v := (0 : Int32)) X (by decide) dX6_isEmpty_11 ?_
    exact V_zret X hr rfl dX6_isEmpty_12 (Or.inr (⟨rfl, rfl, c_4⟩))
  · refine V_iconst (v := (1 : Int32)) X (by decide) dX6_isEmpty_7 ?_
    refine V_goto X 12 (by decide) dX6_isEmpty_8 ?_
    exact V_zret X hr rfl dX6_isEmpty_12 (Or.inl ⟨rfl, rfl, c_4⟩)

theorem in_X6_isRow_X6 : ∀ w ∈ wsX60, w ∈ wsX6_isRow := fun w h => List.mem_cons_of_mem _ (List.mem_append_right _ h)
set_option maxHeartbeats 4000000 in
set_option maxRecDepth 100000 in
theorem c_X6_isRow (l : Launch) (D : va_G) (Y : Nat → ClassId) (o : Nat) (c : Nat) (hd : Int32) (bd : Int32) (so : Int32) (le : Int32) : Mg l yX6_isRow wsX6_isRow ({ frames := 0, cells := 0, slots := 0, locals := 0 }) D Y [(o, .inr (5, [.ref c, .int hd, .int bd, .int so, .int le]))] [.ref o] 0 0 (fun vv__ ww__ => (vv__ = some (.int (1 : Int32)) ∧ ww__ = [(o, .inr (5, [.ref c, .int hd, .int bd, .int so, .int le]))] ∧ (hd.toInt = 2)) ∨ (vv__ = some (.int (0 : Int32)) ∧ ww__ = [(o, .inr (5, [.ref c, .int hd, .int bd, .int so, .int le]))] ∧ (hd.toInt ≠ 2))) := by
  refine Mg_of (cc := cX6_isRow) (maxL := 1) (ret := (some .boolean)) (ls0 := [(0, .ref o)]) RX6 (by decide) rfl rfl rfl (Nat.le_of_ble_eq_true rfl) (fun p__ e__ s__ m__ b__ t__ c__ X hr hn => ?_)
  refine V_aload_n X 0 rfl dX6_isRow_0 ?_
  refine V_get (C := RX6) (T := TX6) (N := 5) (ci := 5) (v := .int hd) X in_X6_isRow_X6 0 rfl rfl 1 (by decide) (List.mem_of_getElem? (i := 1) rfl) rfl rfl dX6_isRow_1 ?_
  refine V_iconst (v := (2 : Int32)) X (by decide) dX6_isRow_4 ?_
  refine V_icmp_ne X rfl (show (2 : Int32).toInt = 2 from by decide) 12 dX6_isRow_5 (by decide) (fun c_5 => ?_) (fun c_5 => ?_)
  · refine V_iconst (v := (0 : Int32)) X (by decide) dX6_isRow_12 ?_
    exact V_zret X hr rfl dX6_isRow_13 (Or.inr (⟨rfl, rfl, c_5⟩))
  · refine V_iconst (v := (1 : Int32)) X (by decide) dX6_isRow_8 ?_
    refine V_goto X 13 (by decide) dX6_isRow_9 ?_
    exact V_zret X hr rfl dX6_isRow_13 (Or.inl ⟨rfl, rfl, c_5⟩)

theorem in_X6_isRowOfBytes_X6 : ∀ w ∈ wsX60, w ∈ wsX6_isRowOfBytes := fun w h => List.mem_cons_of_mem _ (List.mem_append_right _ h)
set_option maxHeartbeats 4000000 in
set_option maxRecDepth 100000 in
theorem c_X6_isRowOfBytes (l : Launch) (D : va_G) (Y : Nat → ClassId) (o : Nat) (c : Nat) (hd : Int32) (bd : Int32) (so : Int32) (le : Int32) : Mg l yX6_isRowOfBytes wsX6_isRowOfBytes ({ frames := 1, cells := 0, slots := 0, locals := 20 }) D Y [(o, .inr (5, [.ref c, .int hd, .int bd, .int so, .int le]))] [.ref o] 0 0 (fun vv__ ww__ => (vv__ = some (.int (1 : Int32)) ∧ ww__ = [(o, .inr (5, [.ref c, .int hd, .int bd, .int so, .int le]))] ∧ (hd.toInt = 2 ∧ so.toInt = 0)) ∨ (vv__ = some (.int (0 : Int32)) ∧ ww__ = [(o, .inr (5, [.ref c, .int hd, .int bd, .int so, .int le]))] ∧ (¬ (hd.toInt = 2 ∧ so.toInt = 0)))) := by
  refine Mg_of (cc := cX6_isRowOfBytes) (maxL := 1) (ret := (some .boolean)) (ls0 := [(0, .ref o)]) RX6 (by decide) rfl rfl rfl (Nat.le_of_ble_eq_true rfl) (fun p__ e__ s__ m__ b__ t__ c__ X hr hn => ?_)
  refine V_aload_n X 0 rfl dX6_isRowOfBytes_0 ?_
  refine V_callV (C := RX6) (wr := []) (st := []) X (c_X6_isRow l D Y o c hd bd so le) 0 gX6_isRowOfBytes_X6_isRow rfl (by decide +kernel) ⟨rfl, rfl⟩ ⟨Nat.le_of_ble_eq_true rfl, Nat.le_of_ble_eq_true rfl⟩ [0] [] rfl rfl rfl rfl (by decide) (ci := 5) rfl rfl 0 rfl rfl rfl (Nat.le_of_ble_eq_true rfl) ⟨Nat.le_of_ble_eq_true rfl, Nat.le_of_ble_eq_true rfl⟩ dX6_isRowOfBytes_1 (fun v_1 w_1 h_1 => ?_)
  rcases h_1 with ⟨rfl, rfl, hhy_2⟩ | ⟨rfl, rfl, hhn_3⟩
  · refine V_to (pc' := 4) (ls' := [(0, .ref o)]) (st' := [.int (1 : Int32)]) (ws' := [(o, .inr (5, [.ref c, .int hd, .int bd, .int so, .int le]))]) ?_ rfl rfl rfl rfl
    refine V_if_eq X (show (1 : Int32).toInt = 1 from by decide) 18 dX6_isRowOfBytes_4 (by decide) (fun c_4 => absurd c_4 (by decide)) (fun _ => ?_)
    refine V_aload_n X 0 rfl dX6_isRowOfBytes_7 ?_
    refine V_get (C := RX6) (T := TX6) (N := 5) (ci := 5) (v := .int so) X in_X6_isRowOfBytes_X6 0 rfl rfl 3 (by decide) (List.mem_of_getElem? (i := 1) rfl) rfl rfl dX6_isRowOfBytes_8 ?_
    refine V_if_ne X rfl 18 dX6_isRowOfBytes_11 (by decide) (fun c_11 => ?_) (fun c_11 => ?_)
    · refine V_iconst (v := (0 : Int32)) X (by decide) dX6_isRowOfBytes_18 ?_
      exact V_zret X hr rfl dX6_isRowOfBytes_19 (Or.inr (⟨rfl, rfl, (by omega)⟩))
    · refine V_iconst (v := (1 : Int32)) X (by decide) dX6_isRowOfBytes_14 ?_
      refine V_goto X 19 (by decide) dX6_isRowOfBytes_15 ?_
      exact V_zret X hr rfl dX6_isRowOfBytes_19 (Or.inl ⟨rfl, rfl, (by omega)⟩)
  · refine V_to (pc' := 4) (ls' := [(0, .ref o)]) (st' := [.int (0 : Int32)]) (ws' := [(o, .inr (5, [.ref c, .int hd, .int bd, .int so, .int le]))]) ?_ rfl rfl rfl rfl
    refine V_if_eq X (show (0 : Int32).toInt = 0 from by decide) 18 dX6_isRowOfBytes_4 (by decide) (fun _ => ?_) (fun c_4 => absurd c_4 (by decide))
    refine V_iconst (v := (0 : Int32)) X (by decide) dX6_isRowOfBytes_18 ?_
    exact V_zret X hr rfl dX6_isRowOfBytes_19 (Or.inr (⟨rfl, rfl, (by omega)⟩))

set_option maxHeartbeats 4000000 in
set_option maxRecDepth 100000 in
theorem c_X6_refusalOfRow (l : Launch) (D : va_G) (Y : Nat → ClassId) (o : Nat) (c : Nat) (hd : Int32) (bd : Int32) (so : Int32) (le : Int32) : Mg l yX6_refusalOfRow wsX6_refusalOfRow ({ frames := 1, cells := 0, slots := 0, locals := 20 }) D Y [(o, .inr (5, [.ref c, .int hd, .int bd, .int so, .int le]))] [.ref o] 0 0 (fun vv__ ww__ => (vv__ = some (.int (-11 : Int32)) ∧ ww__ = [(o, .inr (5, [.ref c, .int hd, .int bd, .int so, .int le]))] ∧ (hd.toInt = 0)) ∨ (vv__ = some (.int (0 : Int32)) ∧ ww__ = [(o, .inr (5, [.ref c, .int hd, .int bd, .int so, .int le]))] ∧ (hd.toInt = 2)) ∨ (vv__ = some (.int (-12 : Int32)) ∧ ww__ = [(o, .inr (5, [.ref c, .int hd, .int bd, .int so, .int le]))] ∧ (hd.toInt ≠ 0 ∧ hd.toInt ≠ 2))) := by
  refine Mg_of (cc := cX6_refusalOfRow) (maxL := 1) (ret := (some .int)) (ls0 := [(0, .ref o)]) RX6 (by decide) rfl rfl rfl (Nat.le_of_ble_eq_true rfl) (fun p__ e__ s__ m__ b__ t__ c__ X hr hn => ?_)
  refine V_aload_n X 0 rfl dX6_refusalOfRow_0 ?_
  refine V_callV (C := RX6) (wr := []) (st := []) X (c_X6_isEmpty l D Y o c hd bd so le) 0 gX6_refusalOfRow_X6_isEmpty rfl (by decide +kernel) ⟨rfl, rfl⟩ ⟨Nat.le_of_ble_eq_true rfl, Nat.le_of_ble_eq_true rfl⟩ [0] [] rfl rfl rfl rfl (by decide) (ci := 5) rfl rfl 0 rfl rfl rfl (Nat.le_of_ble_eq_true rfl) ⟨Nat.le_of_ble_eq_true rfl, Nat.le_of_ble_eq_true rfl⟩ dX6_refusalOfRow_1 (fun v_1 w_1 h_1 => ?_)
  rcases h_1 with ⟨rfl, rfl, hhy_2⟩ | ⟨rfl, rfl, hhn_3⟩
  · refine V_to (pc' := 4) (ls' := [(0, .ref o)]) (st' := [.int (1 : Int32)]) (ws' := [(o, .inr (5, [.ref c, .int hd, .int bd, .int so, .int le]))]) ?_ rfl rfl rfl rfl
    refine V_if_eq X (show (1 : Int32).toInt = 1 from by decide) 10 dX6_refusalOfRow_4 (by decide) (fun c_4 => absurd c_4 (by decide)) (fun _ => ?_)
    refine V_bipush (v := (-11 : Int32)) X (by decide) dX6_refusalOfRow_7 ?_
    exact V_iret X hr dX6_refusalOfRow_9 (Or.inl ⟨rfl, rfl, hhy_2⟩)
  · refine V_to (pc' := 4) (ls' := [(0, .ref o)]) (st' := [.int (0 : Int32)]) (ws' := [(o, .inr (5, [.ref c, .int hd, .int bd, .int so, .int le]))]) ?_ rfl rfl rfl rfl
    refine V_if_eq X (show (0 : Int32).toInt = 0 from by decide) 10 dX6_refusalOfRow_4 (by decide) (fun _ => ?_) (fun c_4 => absurd c_4 (by decide))
    refine V_aload_n X 0 rfl dX6_refusalOfRow_10 ?_
    refine V_callV (C := RX6) (wr := []) (st := []) X (c_X6_isRow l D Y o c hd bd so le) 0 gX6_refusalOfRow_X6_isRow rfl (by decide +kernel) ⟨rfl, rfl⟩ ⟨Nat.le_of_ble_eq_true rfl, Nat.le_of_ble_eq_true rfl⟩ [0] [] rfl rfl rfl rfl (by decide) (ci := 5) rfl rfl 0 rfl rfl rfl (Nat.le_of_ble_eq_true rfl) ⟨Nat.le_of_ble_eq_true rfl, Nat.le_of_ble_eq_true rfl⟩ dX6_refusalOfRow_11 (fun v_11 w_11 h_11 => ?_)
    rcases h_11 with ⟨rfl, rfl, hhy_5⟩ | ⟨rfl, rfl, hhn_6⟩
    · refine V_to (pc' := 14) (ls' := [(0, .ref o)]) (st' := [.int (1 : Int32)]) (ws' := [(o, .inr (5, [.ref c, .int hd, .int bd, .int so, .int le]))]) ?_ rfl rfl rfl rfl
      refine V_if_eq X (show (1 : Int32).toInt = 1 from by decide) 21 dX6_refusalOfRow_14 (by decide) (fun c_14 => absurd c_14 (by decide)) (fun _ => ?_)
      refine V_iconst (v := (0 : Int32)) X (by decide) dX6_refusalOfRow_17 ?_
      refine V_goto X 23 (by decide) dX6_refusalOfRow_18 ?_
      exact V_iret X hr dX6_refusalOfRow_23 (Or.inr (Or.inl ⟨rfl, rfl, hhy_5⟩))
    · refine V_to (pc' := 14) (ls' := [(0, .ref o)]) (st' := [.int (0 : Int32)]) (ws' := [(o, .inr (5, [.ref c, .int hd, .int bd, .int so, .int le]))]) ?_ rfl rfl rfl rfl
      refine V_if_eq X (show (0 : Int32).toInt = 0 from by decide) 21 dX6_refusalOfRow_14 (by decide) (fun _ => ?_) (fun c_14 => absurd c_14 (by decide))
      refine V_bipush (v := (-12 : Int32)) X (by decide) dX6_refusalOfRow_21 ?_
      exact V_iret X hr dX6_refusalOfRow_23 (Or.inr (Or.inr (⟨rfl, rfl, (by omega)⟩)))

set_option maxHeartbeats 4000000 in
set_option maxRecDepth 100000 in
theorem c_X6_refusalOfBytes (l : Launch) (D : va_G) (Y : Nat → ClassId) (o : Nat) (c : Nat) (hd : Int32) (bd : Int32) (so : Int32) (le : Int32) : Mg l yX6_refusalOfBytes wsX6_refusalOfBytes ({ frames := 2, cells := 0, slots := 0, locals := 40 }) D Y [(o, .inr (5, [.ref c, .int hd, .int bd, .int so, .int le]))] [.ref o] 0 0 (fun vv__ ww__ => (vv__ = some (.int (-11 : Int32)) ∧ ww__ = [(o, .inr (5, [.ref c, .int hd, .int bd, .int so, .int le]))] ∧ (hd.toInt = 0)) ∨ (vv__ = some (.int (0 : Int32)) ∧ ww__ = [(o, .inr (5, [.ref c, .int hd, .int bd, .int so, .int le]))] ∧ (hd.toInt = 2 ∧ so.toInt = 0)) ∨ (vv__ = some (.int (-12 : Int32)) ∧ ww__ = [(o, .inr (5, [.ref c, .int hd, .int bd, .int so, .int le]))] ∧ (hd.toInt ≠ 0 ∧ ¬ (hd.toInt = 2 ∧ so.toInt = 0)))) := by
  refine Mg_of (cc := cX6_refusalOfBytes) (maxL := 1) (ret := (some .int)) (ls0 := [(0, .ref o)]) RX6 (by decide) rfl rfl rfl (Nat.le_of_ble_eq_true rfl) (fun p__ e__ s__ m__ b__ t__ c__ X hr hn => ?_)
  refine V_aload_n X 0 rfl dX6_refusalOfBytes_0 ?_
  refine V_callV (C := RX6) (wr := []) (st := []) X (c_X6_isEmpty l D Y o c hd bd so le) 0 gX6_refusalOfBytes_X6_isEmpty rfl (by decide +kernel) ⟨rfl, rfl⟩ ⟨Nat.le_of_ble_eq_true rfl, Nat.le_of_ble_eq_true rfl⟩ [0] [] rfl rfl rfl rfl (by decide) (ci := 5) rfl rfl 0 rfl rfl rfl (Nat.le_of_ble_eq_true rfl) ⟨Nat.le_of_ble_eq_true rfl, Nat.le_of_ble_eq_true rfl⟩ dX6_refusalOfBytes_1 (fun v_1 w_1 h_1 => ?_)
  rcases h_1 with ⟨rfl, rfl, hhy_2⟩ | ⟨rfl, rfl, hhn_3⟩
  · refine V_to (pc' := 4) (ls' := [(0, .ref o)]) (st' := [.int (1 : Int32)]) (ws' := [(o, .inr (5, [.ref c, .int hd, .int bd, .int so, .int le]))]) ?_ rfl rfl rfl rfl
    refine V_if_eq X (show (1 : Int32).toInt = 1 from by decide) 10 dX6_refusalOfBytes_4 (by decide) (fun c_4 => absurd c_4 (by decide)) (fun _ => ?_)
    refine V_bipush (v := (-11 : Int32)) X (by decide) dX6_refusalOfBytes_7 ?_
    exact V_iret X hr dX6_refusalOfBytes_9 (Or.inl ⟨rfl, rfl, hhy_2⟩)
  · refine V_to (pc' := 4) (ls' := [(0, .ref o)]) (st' := [.int (0 : Int32)]) (ws' := [(o, .inr (5, [.ref c, .int hd, .int bd, .int so, .int le]))]) ?_ rfl rfl rfl rfl
    refine V_if_eq X (show (0 : Int32).toInt = 0 from by decide) 10 dX6_refusalOfBytes_4 (by decide) (fun _ => ?_) (fun c_4 => absurd c_4 (by decide))
    refine V_aload_n X 0 rfl dX6_refusalOfBytes_10 ?_
    refine V_callV (C := RX6) (wr := []) (st := []) X (c_X6_isRowOfBytes l D Y o c hd bd so le) 0 gX6_refusalOfBytes_X6_isRowOfBytes rfl (by decide +kernel) ⟨rfl, rfl⟩ ⟨Nat.le_of_ble_eq_true rfl, Nat.le_of_ble_eq_true rfl⟩ [0] [] rfl rfl rfl rfl (by decide) (ci := 5) rfl rfl 0 rfl rfl rfl (Nat.le_of_ble_eq_true rfl) ⟨Nat.le_of_ble_eq_true rfl, Nat.le_of_ble_eq_true rfl⟩ dX6_refusalOfBytes_11 (fun v_11 w_11 h_11 => ?_)
    rcases h_11 with ⟨rfl, rfl, hhy_5⟩ | ⟨rfl, rfl, hhn_6⟩
    · refine V_to (pc' := 14) (ls' := [(0, .ref o)]) (st' := [.int (1 : Int32)]) (ws' := [(o, .inr (5, [.ref c, .int hd, .int bd, .int so, .int le]))]) ?_ rfl rfl rfl rfl
      refine V_if_eq X (show (1 : Int32).toInt = 1 from by decide) 21 dX6_refusalOfBytes_14 (by decide) (fun c_14 => absurd c_14 (by decide)) (fun _ => ?_)
      refine V_iconst (v := (0 : Int32)) X (by decide) dX6_refusalOfBytes_17 ?_
      refine V_goto X 23 (by decide) dX6_refusalOfBytes_18 ?_
      exact V_iret X hr dX6_refusalOfBytes_23 (Or.inr (Or.inl ⟨rfl, rfl, hhy_5⟩))
    · refine V_to (pc' := 14) (ls' := [(0, .ref o)]) (st' := [.int (0 : Int32)]) (ws' := [(o, .inr (5, [.ref c, .int hd, .int bd, .int so, .int le]))]) ?_ rfl rfl rfl rfl
      refine V_if_eq X (show (0 : Int32).toInt = 0 from by decide) 21 dX6_refusalOfBytes_14 (by decide) (fun _ => ?_) (fun c_14 => absurd c_14 (by decide))
      refine V_bipush (v := (-12 : Int32)) X (by decide) dX6_refusalOfBytes_21 ?_
      exact V_iret X hr dX6_refusalOfBytes_23 (Or.inr (Or.inr (⟨rfl, rfl, (by omega)⟩)))

theorem in_X6_isPlace_X6 : ∀ w ∈ wsX60, w ∈ wsX6_isPlace := fun w h => List.mem_cons_of_mem _ (List.mem_append_right _ h)
set_option maxHeartbeats 4000000 in
set_option maxRecDepth 100000 in
theorem c_X6_isPlace (l : Launch) (D : va_G) (Y : Nat → ClassId) (o : Nat) (i : Int32) (c : Nat) (hd : Int32) (bd : Int32) (so : Int32) (le : Int32) : Mg l yX6_isPlace wsX6_isPlace ({ frames := 0, cells := 0, slots := 0, locals := 0 }) D Y [(o, .inr (5, [.ref c, .int hd, .int bd, .int so, .int le]))] [.ref o, .int i] 0 0 (fun vv__ ww__ => (vv__ = some (.int (1 : Int32)) ∧ ww__ = [(o, .inr (5, [.ref c, .int hd, .int bd, .int so, .int le]))] ∧ (0 ≤ i.toInt ∧ i.toInt < le.toInt)) ∨ (vv__ = some (.int (0 : Int32)) ∧ ww__ = [(o, .inr (5, [.ref c, .int hd, .int bd, .int so, .int le]))] ∧ (¬ (0 ≤ i.toInt ∧ i.toInt < le.toInt)))) := by
  refine Mg_of (cc := cX6_isPlace) (maxL := 2) (ret := (some .boolean)) (ls0 := [(0, .ref o), (1, .int i)]) RX6 (by decide) rfl rfl rfl (Nat.le_of_ble_eq_true rfl) (fun p__ e__ s__ m__ b__ t__ c__ X hr hn => ?_)
  refine V_iload_n X 1 rfl dX6_isPlace_0 ?_
  refine V_if_lt X rfl 16 dX6_isPlace_1 (by decide) (fun c_1 => ?_) (fun c_1 => ?_)
  · refine V_iconst (v := (0 : Int32)) X (by decide) dX6_isPlace_16 ?_
    exact V_zret X hr rfl dX6_isPlace_17 (Or.inr (⟨rfl, rfl, (by omega)⟩))
  · refine V_iload_n X 1 rfl dX6_isPlace_4 ?_
    refine V_aload_n X 0 rfl dX6_isPlace_5 ?_
    refine V_get (C := RX6) (T := TX6) (N := 5) (ci := 5) (v := .int le) X in_X6_isPlace_X6 0 rfl rfl 4 (by decide) (List.mem_of_getElem? (i := 1) rfl) rfl rfl dX6_isPlace_6 ?_
    refine V_icmp_ge X rfl rfl 16 dX6_isPlace_9 (by decide) (fun c_9 => ?_) (fun c_9 => ?_)
    · refine V_iconst (v := (0 : Int32)) X (by decide) dX6_isPlace_16 ?_
      exact V_zret X hr rfl dX6_isPlace_17 (Or.inr (⟨rfl, rfl, (by omega)⟩))
    · refine V_iconst (v := (1 : Int32)) X (by decide) dX6_isPlace_12 ?_
      refine V_goto X 17 (by decide) dX6_isPlace_13 ?_
      exact V_zret X hr rfl dX6_isPlace_17 (Or.inl ⟨rfl, rfl, (by omega)⟩)

theorem in_X6_hasStretch_X6 : ∀ w ∈ wsX60, w ∈ wsX6_hasStretch := fun w h => List.mem_cons_of_mem _ (List.mem_append_right _ h)
set_option maxHeartbeats 4000000 in
set_option maxRecDepth 100000 in
theorem c_X6_hasStretch (l : Launch) (D : va_G) (Y : Nat → ClassId) (o : Nat) (i : Int32) (q : Int32) (c : Nat) (hd : Int32) (bd : Int32) (so : Int32) (le : Int32) (m_ : Nat) (tle : le.toInt = ((m_ : Nat) : Int)) (hm : m_ ≤ 60) : Mg l yX6_hasStretch wsX6_hasStretch ({ frames := 0, cells := 0, slots := 0, locals := 0 }) D Y [(o, .inr (5, [.ref c, .int hd, .int bd, .int so, .int le]))] [.ref o, .int i, .int q] 0 0 (fun vv__ ww__ => (vv__ = some (.int (1 : Int32)) ∧ ww__ = [(o, .inr (5, [.ref c, .int hd, .int bd, .int so, .int le]))] ∧ (0 ≤ i.toInt ∧ 0 ≤ q.toInt ∧ i.toInt + q.toInt ≤ (m_ : Int))) ∨ (vv__ = some (.int (0 : Int32)) ∧ ww__ = [(o, .inr (5, [.ref c, .int hd, .int bd, .int so, .int le]))] ∧ (¬ (0 ≤ i.toInt ∧ 0 ≤ q.toInt ∧ i.toInt + q.toInt ≤ (m_ : Int))))) := by
  refine Mg_of (cc := cX6_hasStretch) (maxL := 3) (ret := (some .boolean)) (ls0 := [(0, .ref o), (1, .int i), (2, .int q)]) RX6 (by decide) rfl rfl rfl (Nat.le_of_ble_eq_true rfl) (fun p__ e__ s__ m__ b__ t__ c__ X hr hn => ?_)
  refine V_iload_n X 1 rfl dX6_hasStretch_0 ?_
  refine V_if_lt X rfl 30 dX6_hasStretch_1 (by decide) (fun c_1 => ?_) (fun c_1 => ?_)
  · refine V_iconst (v := (0 : Int32)) X (by decide) dX6_hasStretch_30 ?_
    exact V_zret X hr rfl dX6_hasStretch_31 (Or.inr (⟨rfl, rfl, (by omega)⟩))
  · refine V_iload_n X 2 rfl dX6_hasStretch_4 ?_
    refine V_if_lt X rfl 30 dX6_hasStretch_5 (by decide) (fun c_5 => ?_) (fun c_5 => ?_)
    · refine V_iconst (v := (0 : Int32)) X (by decide) dX6_hasStretch_30 ?_
      exact V_zret X hr rfl dX6_hasStretch_31 (Or.inr (⟨rfl, rfl, (by omega)⟩))
    · refine V_iload_n X 2 rfl dX6_hasStretch_8 ?_
      refine V_aload_n X 0 rfl dX6_hasStretch_9 ?_
      refine V_get (C := RX6) (T := TX6) (N := 5) (ci := 5) (v := .int le) X in_X6_hasStretch_X6 0 rfl rfl 4 (by decide) (List.mem_of_getElem? (i := 1) rfl) rfl rfl dX6_hasStretch_10 ?_
      refine V_icmp_gt X rfl tle 30 dX6_hasStretch_13 (by decide) (fun c_13 => ?_) (fun c_13 => ?_)
      · refine V_iconst (v := (0 : Int32)) X (by decide) dX6_hasStretch_30 ?_
        exact V_zret X hr rfl dX6_hasStretch_31 (Or.inr (⟨rfl, rfl, (by omega)⟩))
      · refine V_iload_n X 1 rfl dX6_hasStretch_16 ?_
        refine V_aload_n X 0 rfl dX6_hasStretch_17 ?_
        refine V_get (C := RX6) (T := TX6) (N := 5) (ci := 5) (v := .int le) X in_X6_hasStretch_X6 0 rfl rfl 4 (by decide) (List.mem_of_getElem? (i := 1) rfl) rfl rfl dX6_hasStretch_18 ?_
        refine V_iload_n X 2 rfl dX6_hasStretch_21 ?_
        refine V_isubZ X tle rfl (by omega) (by omega) dX6_hasStretch_22 (fun x_1 ex_1 tx_1 => ?_)
        refine V_icmp_gt X rfl rfl 30 dX6_hasStretch_23 (by decide) (fun c_23 => ?_) (fun c_23 => ?_)
        · refine V_iconst (v := (0 : Int32)) X (by decide) dX6_hasStretch_30 ?_
          exact V_zret X hr rfl dX6_hasStretch_31 (Or.inr (⟨rfl, rfl, (by omega)⟩))
        · refine V_iconst (v := (1 : Int32)) X (by decide) dX6_hasStretch_26 ?_
          refine V_goto X 31 (by decide) dX6_hasStretch_27 ?_
          exact V_zret X hr rfl dX6_hasStretch_31 (Or.inl ⟨rfl, rfl, (by omega)⟩)

theorem in_X6_cell_X6 : ∀ w ∈ wsX60, w ∈ wsX6_cell := fun w h => List.mem_cons_of_mem _ (List.mem_append_right _ h)
set_option maxHeartbeats 4000000 in
set_option maxRecDepth 100000 in
theorem c_X6_cell (l : Launch) (D : va_G) (Y : Nat → ClassId) (o : Nat) (c : Nat) (hd : Int32) (bd : Int32) (so : Int32) (le : Int32) (i : Int32) (k : Nat) (fc : Nat → Int64) (ti : i.toInt = ((k : Nat) : Int)) (hk : k < 60) : Mg l yX6_cell wsX6_cell ({ frames := 0, cells := 0, slots := 0, locals := 0 }) D Y [(o, .inr (5, [.ref c, .int hd, .int bd, .int so, .int le])), (c, .inl (Y 1, 60, .inr (.inl fc)))] [.ref o, .int i] 0 0 (fun vv__ ww__ => (vv__ = some (.long (fc k)) ∧ ww__ = [(o, .inr (5, [.ref c, .int hd, .int bd, .int so, .int le])), (c, .inl (Y 1, 60, .inr (.inl fc)))])) := by
  refine Mg_of (cc := cX6_cell) (maxL := 2) (ret := (some .long)) (ls0 := [(0, .ref o), (1, .int i)]) RX6 (by decide) rfl rfl rfl (Nat.le_of_ble_eq_true rfl) (fun p__ e__ s__ m__ b__ t__ c__ X hr hn => ?_)
  refine V_iload_n X 1 rfl dX6_cell_0 ?_
  refine V_if_lt X ti 22 dX6_cell_1 (by decide) (fun c_1 => False.elim (by omega)) (fun c_1 => ?_)
  refine V_iload_n X 1 rfl dX6_cell_4 ?_
  refine V_aload_n X 0 rfl dX6_cell_5 ?_
  refine V_get (C := RX6) (T := TX6) (N := 5) (ci := 5) (v := .ref c) X in_X6_cell_X6 0 rfl rfl 0 (by decide) (List.mem_of_getElem? (i := 1) rfl) rfl rfl dX6_cell_6 ?_
  refine V_alen (v := (60 : Int32)) X 1 1 rfl rfl rfl dX6_cell_9 ?_
  refine V_icmp_ge X ti (show (60 : Int32).toInt = 60 from by decide) 22 dX6_cell_10 (by decide) (fun c_10 => False.elim (by omega)) (fun c_10 => ?_)
  refine V_aload_n X 0 rfl dX6_cell_13 ?_
  refine V_get (C := RX6) (T := TX6) (N := 5) (ci := 5) (v := .ref c) X in_X6_cell_X6 0 rfl rfl 0 (by decide) (List.mem_of_getElem? (i := 1) rfl) rfl rfl dX6_cell_14 ?_
  refine V_iload_n X 1 rfl dX6_cell_17 ?_
  refine V_lald X 1 k rfl ti (by omega) dX6_cell_18 ?_
  refine V_goto X 23 (by decide) dX6_cell_19 ?_
  exact V_lret X hr dX6_cell_23 (⟨rfl, rfl⟩)

set_option maxHeartbeats 4000000 in
set_option maxRecDepth 100000 in
theorem c_X6_small (l : Launch) (D : va_G) (Y : Nat → ClassId) (o : Nat) (c : Nat) (hd : Int32) (bd : Int32) (so : Int32) (le : Int32) (i : Int32) (k : Nat) (fc : Nat → Int64) (ti : i.toInt = ((k : Nat) : Int)) (hk : k < 60) : Mg l yX6_small wsX6_small ({ frames := 1, cells := 0, slots := 0, locals := 21 }) D Y [(o, .inr (5, [.ref c, .int hd, .int bd, .int so, .int le])), (c, .inl (Y 1, 60, .inr (.inl fc)))] [.ref o, .int i] 0 0 (fun vv__ ww__ => (∃ (r : Int32), vv__ = some (.int r) ∧ ww__ = [(o, .inr (5, [.ref c, .int hd, .int bd, .int so, .int le])), (c, .inl (Y 1, 60, .inr (.inl fc)))] ∧ (r = (fc k).toInt32))) := by
  refine Mg_of (cc := cX6_small) (maxL := 2) (ret := (some .int)) (ls0 := [(0, .ref o), (1, .int i)]) RX6 (by decide) rfl rfl rfl (Nat.le_of_ble_eq_true rfl) (fun p__ e__ s__ m__ b__ t__ c__ X hr hn => ?_)
  refine V_aload_n X 0 rfl dX6_small_0 ?_
  refine V_iload_n X 1 rfl dX6_small_1 ?_
  refine V_callV (C := RX6) (wr := []) (st := []) X (c_X6_cell l D Y o c hd bd so le i k fc ti hk) 1 gX6_small_X6_cell rfl (by decide +kernel) ⟨rfl, rfl⟩ ⟨Nat.le_of_ble_eq_true rfl, Nat.le_of_ble_eq_true rfl⟩ [0, 1] [] rfl rfl rfl rfl (by decide) (ci := 5) rfl rfl 0 rfl rfl rfl (Nat.le_of_ble_eq_true rfl) ⟨Nat.le_of_ble_eq_true rfl, Nat.le_of_ble_eq_true rfl⟩ dX6_small_2 (fun v_2 w_2 h_2 => ?_)
  obtain ⟨rfl, rfl⟩ := h_2
  refine V_to (pc' := 5) (ls' := [(0, .ref o), (1, .int i)]) (st' := [.long (fc k)]) (ws' := [(o, .inr (5, [.ref c, .int hd, .int bd, .int so, .int le])), (c, .inl (Y 1, 60, .inr (.inl fc)))]) ?_ rfl rfl rfl rfl
  refine V_l2i X rfl dX6_small_5 ?_
  refine V_nm (fun x_2 ex_2 => ?_)
  exact V_iret X hr dX6_small_6 (⟨x_2, rfl, rfl, ex_2⟩)

theorem in_X6_holdNothing_X6 : ∀ w ∈ wsX60, w ∈ wsX6_holdNothing := fun w h => List.mem_cons_of_mem _ (List.mem_append_right _ h)
set_option maxHeartbeats 4000000 in
set_option maxRecDepth 100000 in
theorem c_X6_holdNothing (l : Launch) (D : va_G) (Y : Nat → ClassId) (o : Nat) (c : Nat) (hd : Int32) (bd : Int32) (so : Int32) (le : Int32) : Mg l yX6_holdNothing wsX6_holdNothing ({ frames := 0, cells := 0, slots := 0, locals := 0 }) D Y [(o, .inr (5, [.ref c, .int hd, .int bd, .int so, .int le]))] [.ref o] 0 0 (fun vv__ ww__ => (vv__ = none ∧ ww__ = [(o, .inr (5, [.ref c, .int (0 : Int32), .int bd, .int so, .int le]))])) := by
  refine Mg_of (cc := cX6_holdNothing) (maxL := 1) (ret := none) (ls0 := [(0, .ref o)]) RX6 (by decide) rfl rfl rfl (Nat.le_of_ble_eq_true rfl) (fun p__ e__ s__ m__ b__ t__ c__ X hr hn => ?_)
  refine V_aload_n X 0 rfl dX6_holdNothing_0 ?_
  refine V_iconst (v := (0 : Int32)) X (by decide) dX6_holdNothing_1 ?_
  refine V_put (C := RX6) (T := TX6) (N := 5) (ci := 5) (v := .int (0 : Int32)) (ty := tyX6 1) (ws' := [(o, .inr (5, [.ref c, .int (0 : Int32), .int bd, .int so, .int le]))]) X in_X6_holdNothing_X6 0 rfl rfl 1 (by decide) (List.mem_of_getElem? (i := 1) rfl) rfl tyX6 tyX6_ok nmX6 rfl (tyX6_ok 1 (by decide)) rfl rfl (Nat.le_of_ble_eq_true rfl) rfl dX6_holdNothing_2 ?_
  exact V_vret X hr dX6_holdNothing_5 (⟨rfl, rfl⟩)

theorem in_X6_holdBody_X6 : ∀ w ∈ wsX60, w ∈ wsX6_holdBody := fun w h => List.mem_cons_of_mem _ (List.mem_append_right _ h)
set_option maxHeartbeats 4000000 in
set_option maxRecDepth 100000 in
theorem c_X6_holdBody (l : Launch) (D : va_G) (Y : Nat → ClassId) (o : Nat) (c : Nat) (hd : Int32) (bd : Int32) (so : Int32) (le : Int32) (v : Int32) : Mg l yX6_holdBody wsX6_holdBody ({ frames := 0, cells := 0, slots := 0, locals := 0 }) D Y [(o, .inr (5, [.ref c, .int hd, .int bd, .int so, .int le]))] [.ref o, .int v] 0 0 (fun vv__ ww__ => (vv__ = none ∧ ww__ = [(o, .inr (5, [.ref c, .int (1 : Int32), .int v, .int so, .int le]))])) := by
  refine Mg_of (cc := cX6_holdBody) (maxL := 2) (ret := none) (ls0 := [(0, .ref o), (1, .int v)]) RX6 (by decide) rfl rfl rfl (Nat.le_of_ble_eq_true rfl) (fun p__ e__ s__ m__ b__ t__ c__ X hr hn => ?_)
  refine V_aload_n X 0 rfl dX6_holdBody_0 ?_
  refine V_iconst (v := (1 : Int32)) X (by decide) dX6_holdBody_1 ?_
  refine V_put (C := RX6) (T := TX6) (N := 5) (ci := 5) (v := .int (1 : Int32)) (ty := tyX6 1) (ws' := [(o, .inr (5, [.ref c, .int (1 : Int32), .int bd, .int so, .int le]))]) X in_X6_holdBody_X6 0 rfl rfl 1 (by decide) (List.mem_of_getElem? (i := 1) rfl) rfl tyX6 tyX6_ok nmX6 rfl (tyX6_ok 1 (by decide)) rfl rfl (Nat.le_of_ble_eq_true rfl) rfl dX6_holdBody_2 ?_
  refine V_aload_n X 0 rfl dX6_holdBody_5 ?_
  refine V_iload_n X 1 rfl dX6_holdBody_6 ?_
  refine V_put (C := RX6) (T := TX6) (N := 5) (ci := 5) (v := .int v) (ty := tyX6 2) (ws' := [(o, .inr (5, [.ref c, .int (1 : Int32), .int v, .int so, .int le]))]) X in_X6_holdBody_X6 0 rfl rfl 2 (by decide) (List.mem_of_getElem? (i := 2) rfl) rfl tyX6 tyX6_ok nmX6 rfl (tyX6_ok 2 (by decide)) rfl rfl (Nat.le_of_ble_eq_true rfl) rfl dX6_holdBody_7 ?_
  exact V_vret X hr dX6_holdBody_10 (⟨rfl, rfl⟩)

theorem in_X6_isRowLike_X6 : ∀ w ∈ wsX60, w ∈ wsX6_isRowLike := fun w h => List.mem_cons_of_mem _ (List.mem_append_right _ h)
set_option maxHeartbeats 4000000 in
set_option maxRecDepth 100000 in
theorem c_X6_isRowLike (l : Launch) (D : va_G) (Y : Nat → ClassId) (o : Nat) (c : Nat) (hd : Int32) (bd : Int32) (so : Int32) (le : Int32) (o2 : Nat) (c2 : Nat) (hd2 : Int32) (bd2 : Int32) (so2 : Int32) (le2 : Int32) : Mg l yX6_isRowLike wsX6_isRowLike ({ frames := 1, cells := 0, slots := 0, locals := 20 }) D Y [(o, .inr (5, [.ref c, .int hd, .int bd, .int so, .int le])), (o2, .inr (5, [.ref c2, .int hd2, .int bd2, .int so2, .int le2]))] [.ref o, .ref o2] 0 0 (fun vv__ ww__ => (vv__ = some (.int (1 : Int32)) ∧ ww__ = [(o, .inr (5, [.ref c, .int hd, .int bd, .int so, .int le])), (o2, .inr (5, [.ref c2, .int hd2, .int bd2, .int so2, .int le2]))] ∧ (hd.toInt = 2 ∧ hd2.toInt = 2 ∧ so.toInt = so2.toInt)) ∨ (vv__ = some (.int (0 : Int32)) ∧ ww__ = [(o, .inr (5, [.ref c, .int hd, .int bd, .int so, .int le])), (o2, .inr (5, [.ref c2, .int hd2, .int bd2, .int so2, .int le2]))] ∧ (¬ (hd.toInt = 2 ∧ hd2.toInt = 2 ∧ so.toInt = so2.toInt)))) := by
  refine Mg_of (cc := cX6_isRowLike) (maxL := 2) (ret := (some .boolean)) (ls0 := [(0, .ref o), (1, .ref o2)]) RX6 (by decide) rfl rfl rfl (Nat.le_of_ble_eq_true rfl) (fun p__ e__ s__ m__ b__ t__ c__ X hr hn => ?_)
  refine V_aload_n X 0 rfl dX6_isRowLike_0 ?_
  refine V_callV (C := RX6) (wr := [(o2, .inr (5, [.ref c2, .int hd2, .int bd2, .int so2, .int le2]))]) (st := []) X (c_X6_isRow l D Y o c hd bd so le) 0 gX6_isRowLike_X6_isRow rfl (by decide +kernel) ⟨rfl, rfl⟩ ⟨Nat.le_of_ble_eq_true rfl, Nat.le_of_ble_eq_true rfl⟩ [0] [1] rfl rfl rfl rfl (by decide) (ci := 5) rfl rfl 0 rfl rfl rfl (Nat.le_of_ble_eq_true rfl) ⟨Nat.le_of_ble_eq_true rfl, Nat.le_of_ble_eq_true rfl⟩ dX6_isRowLike_1 (fun v_1 w_1 h_1 => ?_)
  rcases h_1 with ⟨rfl, rfl, hhy_2⟩ | ⟨rfl, rfl, hhn_3⟩
  · refine V_to (pc' := 4) (ls' := [(0, .ref o), (1, .ref o2)]) (st' := [.int (1 : Int32)]) (ws' := [(o2, .inr (5, [.ref c2, .int hd2, .int bd2, .int so2, .int le2])), (o, .inr (5, [.ref c, .int hd, .int bd, .int so, .int le]))]) ?_ rfl rfl rfl rfl
    refine V_if_eq X (show (1 : Int32).toInt = 1 from by decide) 29 dX6_isRowLike_4 (by decide) (fun c_4 => absurd c_4 (by decide)) (fun _ => ?_)
    refine V_aload_n X 1 rfl dX6_isRowLike_7 ?_
    refine V_callV (C := RX6) (wr := [(o, .inr (5, [.ref c, .int hd, .int bd, .int so, .int le]))]) (st := []) X (c_X6_isRow l D Y o2 c2 hd2 bd2 so2 le2) 0 gX6_isRowLike_X6_isRow rfl (by decide +kernel) ⟨rfl, rfl⟩ ⟨Nat.le_of_ble_eq_true rfl, Nat.le_of_ble_eq_true rfl⟩ [0] [1] rfl rfl rfl rfl (by decide) (ci := 5) rfl rfl 0 rfl rfl rfl (Nat.le_of_ble_eq_true rfl) ⟨Nat.le_of_ble_eq_true rfl, Nat.le_of_ble_eq_true rfl⟩ dX6_isRowLike_8 (fun v_8 w_8 h_8 => ?_)
    rcases h_8 with ⟨rfl, rfl, hhy_5⟩ | ⟨rfl, rfl, hhn_6⟩
    · refine V_to (pc' := 11) (ls' := [(0, .ref o), (1, .ref o2)]) (st' := [.int (1 : Int32)]) (ws' := [(o, .inr (5, [.ref c, .int hd, .int bd, .int so, .int le])), (o2, .inr (5, [.ref c2, .int hd2, .int bd2, .int so2, .int le2]))]) ?_ rfl rfl rfl rfl
      refine V_if_eq X (show (1 : Int32).toInt = 1 from by decide) 29 dX6_isRowLike_11 (by decide) (fun c_11 => absurd c_11 (by decide)) (fun _ => ?_)
      refine V_aload_n X 0 rfl dX6_isRowLike_14 ?_
      refine V_get (C := RX6) (T := TX6) (N := 5) (ci := 5) (v := .int so) X in_X6_isRowLike_X6 0 rfl rfl 3 (by decide) (List.mem_of_getElem? (i := 1) rfl) rfl rfl dX6_isRowLike_15 ?_
      refine V_aload_n X 1 rfl dX6_isRowLike_18 ?_
      refine V_get (C := RX6) (T := TX6) (N := 5) (ci := 5) (v := .int so2) X in_X6_isRowLike_X6 1 rfl rfl 3 (by decide) (List.mem_of_getElem? (i := 1) rfl) rfl rfl dX6_isRowLike_19 ?_
      refine V_icmp_ne X rfl rfl 29 dX6_isRowLike_22 (by decide) (fun c_22 => ?_) (fun c_22 => ?_)
      · refine V_iconst (v := (0 : Int32)) X (by decide) dX6_isRowLike_29 ?_
        exact V_zret X hr rfl dX6_isRowLike_30 (Or.inr (⟨rfl, rfl, (by omega)⟩))
      · refine V_iconst (v := (1 : Int32)) X (by decide) dX6_isRowLike_25 ?_
        refine V_goto X 30 (by decide) dX6_isRowLike_26 ?_
        exact V_zret X hr rfl dX6_isRowLike_30 (Or.inl ⟨rfl, rfl, (by omega)⟩)
    · refine V_to (pc' := 11) (ls' := [(0, .ref o), (1, .ref o2)]) (st' := [.int (0 : Int32)]) (ws' := [(o, .inr (5, [.ref c, .int hd, .int bd, .int so, .int le])), (o2, .inr (5, [.ref c2, .int hd2, .int bd2, .int so2, .int le2]))]) ?_ rfl rfl rfl rfl
      refine V_if_eq X (show (0 : Int32).toInt = 0 from by decide) 29 dX6_isRowLike_11 (by decide) (fun _ => ?_) (fun c_11 => absurd c_11 (by decide))
      refine V_iconst (v := (0 : Int32)) X (by decide) dX6_isRowLike_29 ?_
      exact V_zret X hr rfl dX6_isRowLike_30 (Or.inr (⟨rfl, rfl, (by omega)⟩))
  · refine V_to (pc' := 4) (ls' := [(0, .ref o), (1, .ref o2)]) (st' := [.int (0 : Int32)]) (ws' := [(o2, .inr (5, [.ref c2, .int hd2, .int bd2, .int so2, .int le2])), (o, .inr (5, [.ref c, .int hd, .int bd, .int so, .int le]))]) ?_ rfl rfl rfl rfl
    refine V_if_eq X (show (0 : Int32).toInt = 0 from by decide) 29 dX6_isRowLike_4 (by decide) (fun _ => ?_) (fun c_4 => absurd c_4 (by decide))
    refine V_iconst (v := (0 : Int32)) X (by decide) dX6_isRowLike_29 ?_
    refine V_ws (ws' := [(o, .inr (5, [.ref c, .int hd, .int bd, .int so, .int le])), (o2, .inr (5, [.ref c2, .int hd2, .int bd2, .int so2, .int le2]))]) [1, 0] rfl rfl rfl ?_
    exact V_zret X hr rfl dX6_isRowLike_30 (Or.inr (⟨rfl, rfl, (by omega)⟩))

set_option maxHeartbeats 4000000 in
set_option maxRecDepth 100000 in
theorem c_X6_isRowLike_self (l : Launch) (D : va_G) (Y : Nat → ClassId) (o : Nat) (c : Nat) (hd : Int32) (bd : Int32) (so : Int32) (le : Int32) : Mg l yX6_isRowLike wsX6_isRowLike ({ frames := 1, cells := 0, slots := 0, locals := 20 }) D Y [(o, .inr (5, [.ref c, .int hd, .int bd, .int so, .int le]))] [.ref o, .ref o] 0 0 (fun vv__ ww__ => (vv__ = some (.int (1 : Int32)) ∧ ww__ = [(o, .inr (5, [.ref c, .int hd, .int bd, .int so, .int le]))] ∧ (hd.toInt = 2)) ∨ (vv__ = some (.int (0 : Int32)) ∧ ww__ = [(o, .inr (5, [.ref c, .int hd, .int bd, .int so, .int le]))] ∧ (hd.toInt ≠ 2))) := by
  refine Mg_of (cc := cX6_isRowLike) (maxL := 2) (ret := (some .boolean)) (ls0 := [(0, .ref o), (1, .ref o)]) RX6 (by decide) rfl rfl rfl (Nat.le_of_ble_eq_true rfl) (fun p__ e__ s__ m__ b__ t__ c__ X hr hn => ?_)
  refine V_aload_n X 0 rfl dX6_isRowLike_0 ?_
  refine V_callV (C := RX6) (wr := []) (st := []) X (c_X6_isRow l D Y o c hd bd so le) 0 gX6_isRowLike_X6_isRow rfl (by decide +kernel) ⟨rfl, rfl⟩ ⟨Nat.le_of_ble_eq_true rfl, Nat.le_of_ble_eq_true rfl⟩ [0] [] rfl rfl rfl rfl (by decide) (ci := 5) rfl rfl 0 rfl rfl rfl (Nat.le_of_ble_eq_true rfl) ⟨Nat.le_of_ble_eq_true rfl, Nat.le_of_ble_eq_true rfl⟩ dX6_isRowLike_1 (fun v_1 w_1 h_1 => ?_)
  rcases h_1 with ⟨rfl, rfl, hhy_2⟩ | ⟨rfl, rfl, hhn_3⟩
  · refine V_to (pc' := 4) (ls' := [(0, .ref o), (1, .ref o)]) (st' := [.int (1 : Int32)]) (ws' := [(o, .inr (5, [.ref c, .int hd, .int bd, .int so, .int le]))]) ?_ rfl rfl rfl rfl
    refine V_if_eq X (show (1 : Int32).toInt = 1 from by decide) 29 dX6_isRowLike_4 (by decide) (fun c_4 => absurd c_4 (by decide)) (fun _ => ?_)
    refine V_aload_n X 1 rfl dX6_isRowLike_7 ?_
    refine V_callV (C := RX6) (wr := []) (st := []) X (c_X6_isRow l D Y o c hd bd so le) 0 gX6_isRowLike_X6_isRow rfl (by decide +kernel) ⟨rfl, rfl⟩ ⟨Nat.le_of_ble_eq_true rfl, Nat.le_of_ble_eq_true rfl⟩ [0] [] rfl rfl rfl rfl (by decide) (ci := 5) rfl rfl 0 rfl rfl rfl (Nat.le_of_ble_eq_true rfl) ⟨Nat.le_of_ble_eq_true rfl, Nat.le_of_ble_eq_true rfl⟩ dX6_isRowLike_8 (fun v_8 w_8 h_8 => ?_)
    rcases h_8 with ⟨rfl, rfl, hhy_5⟩ | ⟨rfl, rfl, hhn_6⟩
    · refine V_to (pc' := 11) (ls' := [(0, .ref o), (1, .ref o)]) (st' := [.int (1 : Int32)]) (ws' := [(o, .inr (5, [.ref c, .int hd, .int bd, .int so, .int le]))]) ?_ rfl rfl rfl rfl
      refine V_if_eq X (show (1 : Int32).toInt = 1 from by decide) 29 dX6_isRowLike_11 (by decide) (fun c_11 => absurd c_11 (by decide)) (fun _ => ?_)
      refine V_aload_n X 0 rfl dX6_isRowLike_14 ?_
      refine V_get (C := RX6) (T := TX6) (N := 5) (ci := 5) (v := .int so) X in_X6_isRowLike_X6 0 rfl rfl 3 (by decide) (List.mem_of_getElem? (i := 1) rfl) rfl rfl dX6_isRowLike_15 ?_
      refine V_aload_n X 1 rfl dX6_isRowLike_18 ?_
      refine V_get (C := RX6) (T := TX6) (N := 5) (ci := 5) (v := .int so) X in_X6_isRowLike_X6 0 rfl rfl 3 (by decide) (List.mem_of_getElem? (i := 1) rfl) rfl rfl dX6_isRowLike_19 ?_
      refine V_icmp_ne X rfl rfl 29 dX6_isRowLike_22 (by decide) (fun c_22 => False.elim (by omega)) (fun c_22 => ?_)
      refine V_iconst (v := (1 : Int32)) X (by decide) dX6_isRowLike_25 ?_
      refine V_goto X 30 (by decide) dX6_isRowLike_26 ?_
      exact V_zret X hr rfl dX6_isRowLike_30 (Or.inl ⟨rfl, rfl, hhy_5⟩)
    · refine V_to (pc' := 11) (ls' := [(0, .ref o), (1, .ref o)]) (st' := [.int (0 : Int32)]) (ws' := [(o, .inr (5, [.ref c, .int hd, .int bd, .int so, .int le]))]) ?_ rfl rfl rfl rfl
      refine V_if_eq X (show (0 : Int32).toInt = 0 from by decide) 29 dX6_isRowLike_11 (by decide) (fun _ => ?_) (fun c_11 => absurd c_11 (by decide))
      refine V_iconst (v := (0 : Int32)) X (by decide) dX6_isRowLike_29 ?_
      exact V_zret X hr rfl dX6_isRowLike_30 (Or.inr (⟨rfl, rfl, hhn_6⟩))
  · refine V_to (pc' := 4) (ls' := [(0, .ref o), (1, .ref o)]) (st' := [.int (0 : Int32)]) (ws' := [(o, .inr (5, [.ref c, .int hd, .int bd, .int so, .int le]))]) ?_ rfl rfl rfl rfl
    refine V_if_eq X (show (0 : Int32).toInt = 0 from by decide) 29 dX6_isRowLike_4 (by decide) (fun _ => ?_) (fun c_4 => absurd c_4 (by decide))
    refine V_iconst (v := (0 : Int32)) X (by decide) dX6_isRowLike_29 ?_
    exact V_zret X hr rfl dX6_isRowLike_30 (Or.inr (⟨rfl, rfl, hhn_3⟩))

theorem in_X6_lowestOf_X6 : ∀ w ∈ wsX60, w ∈ wsX6_lowestOf := fun w h => List.mem_cons_of_mem _ (List.mem_append_right _ h)
set_option maxHeartbeats 4000000 in
set_option maxRecDepth 100000 in
theorem c_X6_lowestOf (l : Launch) (D : va_G) (Y : Nat → ClassId) (o : Nat) (c : Nat) (hd : Int32) (bd : Int32) (so : Int32) (le : Int32) (v : Int64) : Mg l yX6_lowestOf wsX6_lowestOf ({ frames := 0, cells := 0, slots := 0, locals := 0 }) D Y [(o, .inr (5, [.ref c, .int hd, .int bd, .int so, .int le]))] [.ref o, .long v] 0 0 (fun vv__ ww__ => (∃ (r : Int64), vv__ = some (.long r) ∧ ww__ = [(o, .inr (5, [.ref c, .int hd, .int bd, .int so, .int le]))] ∧ (r = lowZ so.toInt v))) := by
  refine Mg_of (cc := cX6_lowestOf) (maxL := 3) (ret := (some .long)) (ls0 := [(0, .ref o), (1, .long v)]) RX6 (by decide) rfl rfl rfl (Nat.le_of_ble_eq_true rfl) (fun p__ e__ s__ m__ b__ t__ c__ X hr hn => ?_)
  refine V_aload_n X 0 rfl dX6_lowestOf_0 ?_
  refine V_get (C := RX6) (T := TX6) (N := 5) (ci := 5) (v := .int so) X in_X6_lowestOf_X6 0 rfl rfl 3 (by decide) (List.mem_of_getElem? (i := 1) rfl) rfl rfl dX6_lowestOf_1 ?_
  have t_4 : so.toInt = so.toInt := rfl
  rcases (by omega : so.toInt = 0 ∨ so.toInt = 1 ∨ so.toInt = 2 ∨ so.toInt = 3 ∨ so.toInt = 4 ∨ (so.toInt < 0 ∨ 4 < so.toInt)) with c_4 | c_4 | c_4 | c_4 | c_4 | c_4
  · refine V_tableIn X 40 0 dX6_lowestOf_4 (by omega) (by decide) rfl (by decide) ?_
    refine V_lload_n X 1 rfl dX6_lowestOf_40 ?_
    refine V_l2i X rfl dX6_lowestOf_41 ?_
    refine V_nm (fun x_1 ex_1 => ?_)
    refine V_i2b X rfl dX6_lowestOf_42 ?_
    refine V_nm (fun x_2 ex_2 => ?_)
    refine V_i2l X rfl dX6_lowestOf_43 ?_
    refine V_nmL (fun x_3 ex_3 => ?_)
    exact V_lret X hr dX6_lowestOf_44 (⟨x_3, rfl, rfl, low0 c_4 (by rw [ex_3, ex_2, ex_1])⟩)
  · refine V_tableIn X 45 1 dX6_lowestOf_4 (by omega) (by decide) rfl (by decide) ?_
    refine V_lload_n X 1 rfl dX6_lowestOf_45 ?_
    refine V_l2i X rfl dX6_lowestOf_46 ?_
    refine V_nm (fun x_4 ex_4 => ?_)
    refine V_i2s X rfl dX6_lowestOf_47 ?_
    refine V_nm (fun x_5 ex_5 => ?_)
    refine V_i2l X rfl dX6_lowestOf_48 ?_
    refine V_nmL (fun x_6 ex_6 => ?_)
    exact V_lret X hr dX6_lowestOf_49 (⟨x_6, rfl, rfl, low1 c_4 (by rw [ex_6, ex_5, ex_4])⟩)
  · refine V_tableIn X 50 2 dX6_lowestOf_4 (by omega) (by decide) rfl (by decide) ?_
    refine V_lload_n X 1 rfl dX6_lowestOf_50 ?_
    refine V_l2i X rfl dX6_lowestOf_51 ?_
    refine V_nm (fun x_7 ex_7 => ?_)
    refine V_i2l X rfl dX6_lowestOf_52 ?_
    refine V_nmL (fun x_8 ex_8 => ?_)
    exact V_lret X hr dX6_lowestOf_53 (⟨x_8, rfl, rfl, low2 c_4 (by rw [ex_8, ex_7])⟩)
  · refine V_tableIn X 66 3 dX6_lowestOf_4 (by omega) (by decide) rfl (by decide) ?_
    refine V_lload_n X 1 rfl dX6_lowestOf_66 ?_
    exact V_lret X hr dX6_lowestOf_67 (⟨v, rfl, rfl, low3 c_4⟩)
  · refine V_tableIn X 54 4 dX6_lowestOf_4 (by omega) (by decide) rfl (by decide) ?_
    refine V_lload_n X 1 rfl dX6_lowestOf_54 ?_
    refine V_lconst (v := 0) X (by decide) dX6_lowestOf_55 ?_
    refine V_lcmp X rfl dX6_lowestOf_56 ?_
    refine V_nm (fun x_9 ex_9 => ?_)
    have hcmp : x_9.toInt = 0 ↔ v = 0 := by rw [ex_9]; exact lcmp0 v
    refine V_if_eq X rfl 64 dX6_lowestOf_57 (by decide) (fun c_57 => ?_) (fun c_57 => ?_)
    · refine V_lconst (v := 0) X (by decide) dX6_lowestOf_64 ?_
      exact V_lret X hr dX6_lowestOf_65 (⟨0, rfl, rfl, low40 c_4 (hcmp.mp c_57)⟩)
    · refine V_lconst (v := 1) X (by decide) dX6_lowestOf_60 ?_
      refine V_goto X 65 (by decide) dX6_lowestOf_61 ?_
      exact V_lret X hr dX6_lowestOf_65 (⟨1, rfl, rfl, low41 c_4 (fun q => c_57 (hcmp.mpr q))⟩)
  · refine V_tableOut X 66 dX6_lowestOf_4 (by omega) (by decide) ?_
    refine V_lload_n X 1 rfl dX6_lowestOf_66 ?_
    exact V_lret X hr dX6_lowestOf_67 (⟨v, rfl, rfl, low5 c_4⟩)

theorem in_X6_become_X6 : ∀ w ∈ wsX60, w ∈ wsX6_become := fun w h => List.mem_cons_of_mem _ (List.mem_append_right _ h)
set_option maxHeartbeats 4000000 in
set_option maxRecDepth 100000 in
theorem c_X6_become (l : Launch) (D : va_G) (Y : Nat → ClassId) (o : Nat) (c : Nat) (hd : Int32) (bd : Int32) (so : Int32) (le : Int32) (i : Int32) (k : Nat) (v : Int64) (fc : Nat → Int64) (ti : i.toInt = ((k : Nat) : Int)) (hk : k < 60) : Mg l yX6_become wsX6_become ({ frames := 1, cells := 0, slots := 0, locals := 22 }) D Y [(o, .inr (5, [.ref c, .int hd, .int bd, .int so, .int le])), (c, .inl (Y 1, 60, .inr (.inl fc)))] [.ref o, .int i, .long v] 0 0 (fun vv__ ww__ => (∃ (fc2 : Nat → Int64), vv__ = none ∧ ww__ = [(o, .inr (5, [.ref c, .int hd, .int bd, .int so, .int le])), (c, .inl (Y 1, 60, .inr (.inl fc2)))] ∧ (fc2 = vp_updL fc k (lowZ so.toInt v)))) := by
  refine Mg_of (cc := cX6_become) (maxL := 4) (ret := none) (ls0 := [(0, .ref o), (1, .int i), (2, .long v)]) RX6 (by decide) rfl rfl rfl (Nat.le_of_ble_eq_true rfl) (fun p__ e__ s__ m__ b__ t__ c__ X hr hn => ?_)
  refine V_iload_n X 1 rfl dX6_become_0 ?_
  refine V_if_lt X ti 24 dX6_become_1 (by decide) (fun c_1 => False.elim (by omega)) (fun c_1 => ?_)
  refine V_iload_n X 1 rfl dX6_become_4 ?_
  refine V_aload_n X 0 rfl dX6_become_5 ?_
  refine V_get (C := RX6) (T := TX6) (N := 5) (ci := 5) (v := .ref c) X in_X6_become_X6 0 rfl rfl 0 (by decide) (List.mem_of_getElem? (i := 1) rfl) rfl rfl dX6_become_6 ?_
  refine V_alen (v := (60 : Int32)) X 1 1 rfl rfl rfl dX6_become_9 ?_
  refine V_icmp_ge X ti (show (60 : Int32).toInt = 60 from by decide) 24 dX6_become_10 (by decide) (fun c_10 => False.elim (by omega)) (fun c_10 => ?_)
  refine V_aload_n X 0 rfl dX6_become_13 ?_
  refine V_get (C := RX6) (T := TX6) (N := 5) (ci := 5) (v := .ref c) X in_X6_become_X6 0 rfl rfl 0 (by decide) (List.mem_of_getElem? (i := 1) rfl) rfl rfl dX6_become_14 ?_
  refine V_iload_n X 1 rfl dX6_become_17 ?_
  refine V_aload_n X 0 rfl dX6_become_18 ?_
  refine V_lload_n X 2 rfl dX6_become_19 ?_
  refine V_callV (C := RX6) (wr := [(c, .inl (Y 1, 60, .inr (.inl fc)))]) (st := [.int i, .ref c]) X (c_X6_lowestOf l D Y o c hd bd so le v) 1 gX6_become_X6_lowestOf rfl (by decide +kernel) ⟨rfl, rfl⟩ ⟨Nat.le_of_ble_eq_true rfl, Nat.le_of_ble_eq_true rfl⟩ [0] [1] rfl rfl rfl rfl (by decide) (ci := 5) rfl rfl 0 rfl rfl rfl (Nat.le_of_ble_eq_true rfl) ⟨Nat.le_of_ble_eq_true rfl, Nat.le_of_ble_eq_true rfl⟩ dX6_become_20 (fun v_20 w_20 h_20 => ?_)
  obtain ⟨r_2, rfl, rfl, hhr_3⟩ := h_20
  refine V_to (pc' := 23) (ls' := [(0, .ref o), (1, .int i), (2, .long v)]) (st' := [.long r_2, .int i, .ref c]) (ws' := [(c, .inl (Y 1, 60, .inr (.inl fc))), (o, .inr (5, [.ref c, .int hd, .int bd, .int so, .int le]))]) ?_ rfl rfl rfl rfl
  refine V_last (ws' := [(c, .inl (Y 1, 60, .inr (.inl (vp_updL fc k r_2)))), (o, .inr (5, [.ref c, .int hd, .int bd, .int so, .int le]))]) X 0 k rfl ti (by omega) rfl dX6_become_23 ?_
  refine V_ws (ws' := [(o, .inr (5, [.ref c, .int hd, .int bd, .int so, .int le])), (c, .inl (Y 1, 60, .inr (.inl (vp_updL fc k r_2))))]) [1, 0] rfl rfl rfl ?_
  exact V_vret X hr dX6_become_24 (⟨(vp_updL fc k r_2), rfl, rfl, (by rw [hhr_3])⟩)

set_option maxHeartbeats 4000000 in
set_option maxRecDepth 100000 in
theorem c_X1_copy (l : Launch) (D : va_G) (Y : Nat → ClassId) (a : Nat) (b : Nat) (N : Nat) (f : Nat → Int32) (f0 : Nat → Int32) (hN : N < 2 ^ 31) : Mg l yX1_copy wsX1_copy ({ frames := 1, cells := 0, slots := 0, locals := 64 }) D Y [(a, .inl (Y 0, N, .inl f)), (b, .inl (Y 0, N, .inl f0))] [.ref a, .ref b] 0 0 (fun vv__ ww__ => (∃ (f2 : Nat → Int32), vv__ = none ∧ ww__ = [(a, .inl (Y 0, N, .inl f)), (b, .inl (Y 0, N, .inl f2))] ∧ (∀ j, j < N → f2 j = f j))) := by
  refine Mg_of (cc := cX1_copy) (maxL := 2) (ret := none) (ls0 := [(0, .ref a), (1, .ref b)]) RX1 (by decide) rfl rfl rfl (Nat.le_of_ble_eq_true rfl) (fun p__ e__ s__ m__ b__ t__ c__ X hr hn => ?_)
  refine V_aload_n X 0 rfl dX1_copy_0 ?_
  refine V_iconst (v := (0 : Int32)) X (by decide) dX1_copy_1 ?_
  refine V_aload_n X 1 rfl dX1_copy_2 ?_
  refine V_iconst (v := (0 : Int32)) X (by decide) dX1_copy_3 ?_
  refine V_aload_n X 0 rfl dX1_copy_4 ?_
  refine V_alen (v := (nI N)) X 0 0 rfl rfl rfl dX1_copy_5 ?_
  refine V_aload_n X 1 rfl dX1_copy_6 ?_
  refine V_alen (v := (nI N)) X 1 0 rfl rfl rfl dX1_copy_7 ?_
  refine V_mmin (st := [.int (0 : Int32), .ref b, .int (0 : Int32), .ref a]) X (List.mem_of_getElem? (i := 1) rfl) (List.mem_of_getElem? (i := 2) rfl) (List.mem_of_getElem? (i := 3) rfl) (List.mem_of_getElem? (i := 4) rfl) (Nat.le_of_ble_eq_true rfl) (Nat.le_of_ble_eq_true rfl) (Nat.zero_le _) (Nat.zero_le _) (nI_toInt (by omega)) (nI_toInt (by omega)) dX1_copy_8 (fun x_1 ex_1 tx_1 => ?_)
  have tx_1 : x_1.toInt = ((N : Nat) : Int) := by omega
  refine V_copyi (st := []) (ws' := [(a, .inl (Y 0, N, .inl f)), (b, .inl (Y 0, N, .inl (va_cpy f f0 0 0 N)))]) X (List.mem_of_getElem? (i := 5) rfl) (List.mem_of_getElem? (i := 6) rfl) (List.mem_of_getElem? (i := 7) rfl) (List.mem_of_getElem? (i := 8) rfl) 0 1 0 0 N rfl rfl (show (0 : Int32).toInt = ((0 : Nat) : Int) from (show (0 : Int32).toInt = 0 from by decide)) (show (0 : Int32).toInt = ((0 : Nat) : Int) from (show (0 : Int32).toInt = 0 from by decide)) tx_1 (by omega) (by omega) rfl (Nat.le_of_ble_eq_true rfl) (by decide +kernel) dX1_copy_11 ?_
  exact V_vret X hr dX1_copy_14 (⟨(va_cpy f f0 0 0 N), rfl, rfl, (fun j hj => cpy0 hj)⟩)

theorem in_X6_holdRow_X6 : ∀ w ∈ wsX60, w ∈ wsX6_holdRow := fun w h => List.mem_cons_of_mem _ (List.mem_append_right _ h)
set_option maxHeartbeats 4000000 in
set_option maxRecDepth 100000 in
theorem c_X6_holdRow (l : Launch) (D : va_G) (Y : Nat → ClassId) (o : Nat) (c : Nat) (hd : Int32) (bd : Int32) (so : Int32) (le : Int32) (x : Int32) (y : Int32) (m_ : Nat) (fc : Nat → Int64) (ty : y.toInt = ((m_ : Nat) : Int)) (hm : m_ ≤ 60) : Mg l yX6_holdRow wsX6_holdRow ({ frames := 1, cells := 0, slots := 0, locals := 64 }) D Y [(o, .inr (5, [.ref c, .int hd, .int bd, .int so, .int le])), (c, .inl (Y 1, 60, .inr (.inl fc)))] [.ref o, .int x, .int y] 0 0 (fun vv__ ww__ => (∃ (le2 : Int32), ∃ (fc2 : Nat → Int64), vv__ = none ∧ ww__ = [(o, .inr (5, [.ref c, .int (2 : Int32), .int bd, .int x, .int le2])), (c, .inl (Y 1, 60, .inr (.inl fc2)))] ∧ (le2.toInt = ((m_ : Nat) : Int)) ∧ (∀ j, j < 60 → fc2 j = 0))) := by
  refine Mg_of (cc := cX6_holdRow) (maxL := 3) (ret := none) (ls0 := [(0, .ref o), (1, .int x), (2, .int y)]) RX6 (by decide) rfl rfl rfl (Nat.le_of_ble_eq_true rfl) (fun p__ e__ s__ m__ b__ t__ c__ X hr hn => ?_)
  refine V_aload_n X 0 rfl dX6_holdRow_0 ?_
  refine V_iconst (v := (2 : Int32)) X (by decide) dX6_holdRow_1 ?_
  refine V_put (C := RX6) (T := TX6) (N := 5) (ci := 5) (v := .int (2 : Int32)) (ty := tyX6 1) (ws' := [(o, .inr (5, [.ref c, .int (2 : Int32), .int bd, .int so, .int le])), (c, .inl (Y 1, 60, .inr (.inl fc)))]) X in_X6_holdRow_X6 0 rfl rfl 1 (by decide) (List.mem_of_getElem? (i := 1) rfl) rfl tyX6 tyX6_ok nmX6 rfl (tyX6_ok 1 (by decide)) rfl rfl (Nat.le_of_ble_eq_true rfl) rfl dX6_holdRow_2 ?_
  refine V_aload_n X 0 rfl dX6_holdRow_5 ?_
  refine V_iload_n X 1 rfl dX6_holdRow_6 ?_
  refine V_put (C := RX6) (T := TX6) (N := 5) (ci := 5) (v := .int x) (ty := tyX6 3) (ws' := [(o, .inr (5, [.ref c, .int (2 : Int32), .int bd, .int x, .int le])), (c, .inl (Y 1, 60, .inr (.inl fc)))]) X in_X6_holdRow_X6 0 rfl rfl 3 (by decide) (List.mem_of_getElem? (i := 2) rfl) rfl tyX6 tyX6_ok nmX6 rfl (tyX6_ok 3 (by decide)) rfl rfl (Nat.le_of_ble_eq_true rfl) rfl dX6_holdRow_7 ?_
  refine V_aload_n X 0 rfl dX6_holdRow_10 ?_
  refine V_iload_n X 2 rfl dX6_holdRow_11 ?_
  refine V_aload_n X 0 rfl dX6_holdRow_12 ?_
  refine V_get (C := RX6) (T := TX6) (N := 5) (ci := 5) (v := .ref c) X in_X6_holdRow_X6 0 rfl rfl 0 (by decide) (List.mem_of_getElem? (i := 3) rfl) rfl rfl dX6_holdRow_13 ?_
  refine V_alen (v := (60 : Int32)) X 1 1 rfl rfl rfl dX6_holdRow_16 ?_
  refine V_mmin (st := [.ref o]) X (List.mem_of_getElem? (i := 4) rfl) (List.mem_of_getElem? (i := 5) rfl) (List.mem_of_getElem? (i := 6) rfl) (List.mem_of_getElem? (i := 7) rfl) (Nat.le_of_ble_eq_true rfl) (Nat.le_of_ble_eq_true rfl) (Nat.zero_le _) (Nat.zero_le _) ty (show (60 : Int32).toInt = 60 from by decide) dX6_holdRow_17 (fun x_1 ex_1 tx_1 => ?_)
  have tx_1 : x_1.toInt = ((m_ : Nat) : Int) := by omega
  refine V_put (C := RX6) (T := TX6) (N := 5) (ci := 5) (v := .int x_1) (ty := tyX6 4) (ws' := [(o, .inr (5, [.ref c, .int (2 : Int32), .int bd, .int x, .int x_1])), (c, .inl (Y 1, 60, .inr (.inl fc)))]) X in_X6_holdRow_X6 0 rfl rfl 4 (by decide) (List.mem_of_getElem? (i := 8) rfl) rfl tyX6 tyX6_ok nmX6 rfl (tyX6_ok 4 (by decide)) rfl rfl (Nat.le_of_ble_eq_true rfl) rfl dX6_holdRow_20 ?_
  refine V_aload_n X 0 rfl dX6_holdRow_23 ?_
  refine V_get (C := RX6) (T := TX6) (N := 5) (ci := 5) (v := .ref c) X in_X6_holdRow_X6 0 rfl rfl 0 (by decide) (List.mem_of_getElem? (i := 3) rfl) rfl rfl dX6_holdRow_24 ?_
  refine V_lconst (v := 0) X (by decide) dX6_holdRow_27 ?_
  refine V_callS (wr := [(o, .inr (5, [.ref c, .int (2 : Int32), .int bd, .int x, .int x_1]))]) (st := []) X (c_J7_fill_d0a16 l D Y c 0 60 fc (by omega)) 2 gX6_holdRow_J7_fill_d0a16 rfl (by decide +kernel) ⟨rfl, rfl⟩ ⟨Nat.le_of_ble_eq_true rfl, Nat.le_of_ble_eq_true rfl⟩ [1] [0] rfl rfl rfl rfl (by decide) rfl rfl (Nat.le_of_ble_eq_true rfl) ⟨Nat.le_of_ble_eq_true rfl, Nat.le_of_ble_eq_true rfl⟩ dX6_holdRow_28 (fun v_28 w_28 h_28 => ?_)
  obtain ⟨f2_3, rfl, rfl, hhf_4⟩ := h_28
  refine V_to (pc' := 31) (ls' := [(0, .ref o), (1, .int x), (2, .int y)]) (st' := []) (ws' := [(o, .inr (5, [.ref c, .int (2 : Int32), .int bd, .int x, .int x_1])), (c, .inl (Y 1, 60, .inr (.inl f2_3)))]) ?_ rfl rfl rfl rfl
  exact V_vret X hr dX6_holdRow_31 (⟨x_1, f2_3, rfl, rfl, (by omega), hhf_4⟩)

theorem in_X6_copyTo_X6 : ∀ w ∈ wsX60, w ∈ wsX6_copyTo := fun w h => List.mem_cons_of_mem _ (List.mem_append_right _ h)
set_option maxHeartbeats 4000000 in
set_option maxRecDepth 100000 in
theorem c_X6_copyTo (l : Launch) (D : va_G) (Y : Nat → ClassId) (o : Nat) (c : Nat) (hd : Int32) (bd : Int32) (so : Int32) (le : Int32) (m_ : Nat) (o2 : Nat) (c2 : Nat) (hd2 : Int32) (bd2 : Int32) (so2 : Int32) (le2 : Int32) (m2 : Nat) (i : Int32) (K : Nat) (j : Int32) (J : Nat) (q : Int32) (NN : Nat) (fc : Nat → Int64) (fc2 : Nat → Int64) (tle : le.toInt = ((m_ : Nat) : Int)) (tle2 : le2.toInt = ((m2 : Nat) : Int)) (ti : i.toInt = ((K : Nat) : Int)) (tj : j.toInt = ((J : Nat) : Int)) (tq : q.toInt = ((NN : Nat) : Int)) (h1 : K + NN ≤ m_) (h2 : J + NN ≤ m2) (hm : m_ ≤ 60) (hm2 : m2 ≤ 60) : Mg l yX6_copyTo wsX6_copyTo ({ frames := 1, cells := 0, slots := 0, locals := 64 }) D Y [(o, .inr (5, [.ref c, .int hd, .int bd, .int so, .int le])), (c, .inl (Y 1, 60, .inr (.inl fc))), (o2, .inr (5, [.ref c2, .int hd2, .int bd2, .int so2, .int le2])), (c2, .inl (Y 1, 60, .inr (.inl fc2)))] [.ref o, .int i, .ref o2, .int j, .int q] 0 0 (fun vv__ ww__ => (vv__ = none ∧ ww__ = [(o, .inr (5, [.ref c, .int hd, .int bd, .int so, .int le])), (c, .inl (Y 1, 60, .inr (.inl fc))), (o2, .inr (5, [.ref c2, .int hd2, .int bd2, .int so2, .int le2])), (c2, .inl (Y 1, 60, .inr (.inl (va_cpy fc fc2 K J NN))))])) := by
  refine Mg_of (cc := cX6_copyTo) (maxL := 5) (ret := none) (ls0 := [(0, .ref o), (1, .int i), (2, .ref o2), (3, .int j), (4, .int q)]) RX6 (by decide) rfl rfl rfl (Nat.le_of_ble_eq_true rfl) (fun p__ e__ s__ m__ b__ t__ c__ X hr hn => ?_)
  refine V_aload_n X 0 rfl dX6_copyTo_0 ?_
  refine V_iload_n X 1 rfl dX6_copyTo_1 ?_
  refine V_iload X 4 rfl dX6_copyTo_2 ?_
  refine V_callV (C := RX6) (wr := [(c, .inl (Y 1, 60, .inr (.inl fc))), (o2, .inr (5, [.ref c2, .int hd2, .int bd2, .int so2, .int le2])), (c2, .inl (Y 1, 60, .inr (.inl fc2)))]) (st := []) X (c_X6_hasStretch l D Y o i q c hd bd so le m_ tle hm) 2 gX6_copyTo_X6_hasStretch rfl (by decide +kernel) ⟨rfl, rfl⟩ ⟨Nat.le_of_ble_eq_true rfl, Nat.le_of_ble_eq_true rfl⟩ [0] [1, 2, 3] rfl rfl rfl rfl (by decide) (ci := 5) rfl rfl 0 rfl rfl rfl (Nat.le_of_ble_eq_true rfl) ⟨Nat.le_of_ble_eq_true rfl, Nat.le_of_ble_eq_true rfl⟩ dX6_copyTo_4 (fun v_4 w_4 h_4 => ?_)
  rcases h_4 with ⟨rfl, rfl, hhy_2⟩ | ⟨rfl, rfl, hhn_3⟩
  · refine V_to (pc' := 7) (ls' := [(0, .ref o), (1, .int i), (2, .ref o2), (3, .int j), (4, .int q)]) (st' := [.int (1 : Int32)]) (ws' := [(c, .inl (Y 1, 60, .inr (.inl fc))), (o2, .inr (5, [.ref c2, .int hd2, .int bd2, .int so2, .int le2])), (c2, .inl (Y 1, 60, .inr (.inl fc2))), (o, .inr (5, [.ref c, .int hd, .int bd, .int so, .int le]))]) ?_ rfl rfl rfl rfl
    refine V_if_eq X (show (1 : Int32).toInt = 1 from by decide) 35 dX6_copyTo_7 (by decide) (fun c_7 => absurd c_7 (by decide)) (fun _ => ?_)
    refine V_aload_n X 2 rfl dX6_copyTo_10 ?_
    refine V_iload_n X 3 rfl dX6_copyTo_11 ?_
    refine V_iload X 4 rfl dX6_copyTo_12 ?_
    refine V_callV (C := RX6) (wr := [(c, .inl (Y 1, 60, .inr (.inl fc))), (c2, .inl (Y 1, 60, .inr (.inl fc2))), (o, .inr (5, [.ref c, .int hd, .int bd, .int so, .int le]))]) (st := []) X (c_X6_hasStretch l D Y o2 j q c2 hd2 bd2 so2 le2 m2 tle2 hm2) 2 gX6_copyTo_X6_hasStretch rfl (by decide +kernel) ⟨rfl, rfl⟩ ⟨Nat.le_of_ble_eq_true rfl, Nat.le_of_ble_eq_true rfl⟩ [1] [0, 2, 3] rfl rfl rfl rfl (by decide) (ci := 5) rfl rfl 0 rfl rfl rfl (Nat.le_of_ble_eq_true rfl) ⟨Nat.le_of_ble_eq_true rfl, Nat.le_of_ble_eq_true rfl⟩ dX6_copyTo_14 (fun v_14 w_14 h_14 => ?_)
    rcases h_14 with ⟨rfl, rfl, hhy_5⟩ | ⟨rfl, rfl, hhn_6⟩
    · refine V_to (pc' := 17) (ls' := [(0, .ref o), (1, .int i), (2, .ref o2), (3, .int j), (4, .int q)]) (st' := [.int (1 : Int32)]) (ws' := [(c, .inl (Y 1, 60, .inr (.inl fc))), (c2, .inl (Y 1, 60, .inr (.inl fc2))), (o, .inr (5, [.ref c, .int hd, .int bd, .int so, .int le])), (o2, .inr (5, [.ref c2, .int hd2, .int bd2, .int so2, .int le2]))]) ?_ rfl rfl rfl rfl
      refine V_if_eq X (show (1 : Int32).toInt = 1 from by decide) 35 dX6_copyTo_17 (by decide) (fun c_17 => absurd c_17 (by decide)) (fun _ => ?_)
      refine V_aload_n X 0 rfl dX6_copyTo_20 ?_
      refine V_get (C := RX6) (T := TX6) (N := 5) (ci := 5) (v := .ref c) X in_X6_copyTo_X6 2 rfl rfl 0 (by decide) (List.mem_of_getElem? (i := 1) rfl) rfl rfl dX6_copyTo_21 ?_
      refine V_iload_n X 1 rfl dX6_copyTo_24 ?_
      refine V_aload_n X 2 rfl dX6_copyTo_25 ?_
      refine V_get (C := RX6) (T := TX6) (N := 5) (ci := 5) (v := .ref c2) X in_X6_copyTo_X6 3 rfl rfl 0 (by decide) (List.mem_of_getElem? (i := 1) rfl) rfl rfl dX6_copyTo_26 ?_
      refine V_iload_n X 3 rfl dX6_copyTo_29 ?_
      refine V_iload X 4 rfl dX6_copyTo_30 ?_
      refine V_copyl (st := []) (ws' := [(c, .inl (Y 1, 60, .inr (.inl fc))), (c2, .inl (Y 1, 60, .inr (.inl (va_cpy fc fc2 K J NN)))), (o, .inr (5, [.ref c, .int hd, .int bd, .int so, .int le])), (o2, .inr (5, [.ref c2, .int hd2, .int bd2, .int so2, .int le2]))]) X (List.mem_of_getElem? (i := 2) rfl) (List.mem_of_getElem? (i := 3) rfl) (List.mem_of_getElem? (i := 4) rfl) (List.mem_of_getElem? (i := 5) rfl) 0 1 K J NN rfl rfl ti tj tq (by omega) (by omega) rfl (Nat.le_of_ble_eq_true rfl) (by decide +kernel) dX6_copyTo_32 ?_
      refine V_ws (ws' := [(o, .inr (5, [.ref c, .int hd, .int bd, .int so, .int le])), (c, .inl (Y 1, 60, .inr (.inl fc))), (o2, .inr (5, [.ref c2, .int hd2, .int bd2, .int so2, .int le2])), (c2, .inl (Y 1, 60, .inr (.inl (va_cpy fc fc2 K J NN))))]) [2, 0, 3, 1] rfl rfl rfl ?_
      exact V_vret X hr dX6_copyTo_35 (⟨rfl, rfl⟩)
    · exfalso; omega
  · exfalso; omega

set_option maxHeartbeats 4000000 in
set_option maxRecDepth 100000 in
theorem c_X6_copyTo_self (l : Launch) (D : va_G) (Y : Nat → ClassId) (o : Nat) (c : Nat) (hd : Int32) (bd : Int32) (so : Int32) (le : Int32) (m_ : Nat) (i : Int32) (K : Nat) (j : Int32) (J : Nat) (q : Int32) (NN : Nat) (fc : Nat → Int64) (tle : le.toInt = ((m_ : Nat) : Int)) (ti : i.toInt = ((K : Nat) : Int)) (tj : j.toInt = ((J : Nat) : Int)) (tq : q.toInt = ((NN : Nat) : Int)) (h1 : K + NN ≤ m_) (h2 : J + NN ≤ m_) (hm : m_ ≤ 60) : Mg l yX6_copyTo wsX6_copyTo ({ frames := 1, cells := 0, slots := 0, locals := 64 }) D Y [(o, .inr (5, [.ref c, .int hd, .int bd, .int so, .int le])), (c, .inl (Y 1, 60, .inr (.inl fc)))] [.ref o, .int i, .ref o, .int j, .int q] 0 0 (fun vv__ ww__ => (vv__ = none ∧ ww__ = [(o, .inr (5, [.ref c, .int hd, .int bd, .int so, .int le])), (c, .inl (Y 1, 60, .inr (.inl (va_cpy fc fc K J NN))))])) := by
  refine Mg_of (cc := cX6_copyTo) (maxL := 5) (ret := none) (ls0 := [(0, .ref o), (1, .int i), (2, .ref o), (3, .int j), (4, .int q)]) RX6 (by decide) rfl rfl rfl (Nat.le_of_ble_eq_true rfl) (fun p__ e__ s__ m__ b__ t__ c__ X hr hn => ?_)
  refine V_aload_n X 0 rfl dX6_copyTo_0 ?_
  refine V_iload_n X 1 rfl dX6_copyTo_1 ?_
  refine V_iload X 4 rfl dX6_copyTo_2 ?_
  refine V_callV (C := RX6) (wr := [(c, .inl (Y 1, 60, .inr (.inl fc)))]) (st := []) X (c_X6_hasStretch l D Y o i q c hd bd so le m_ tle hm) 2 gX6_copyTo_X6_hasStretch rfl (by decide +kernel) ⟨rfl, rfl⟩ ⟨Nat.le_of_ble_eq_true rfl, Nat.le_of_ble_eq_true rfl⟩ [0] [1] rfl rfl rfl rfl (by decide) (ci := 5) rfl rfl 0 rfl rfl rfl (Nat.le_of_ble_eq_true rfl) ⟨Nat.le_of_ble_eq_true rfl, Nat.le_of_ble_eq_true rfl⟩ dX6_copyTo_4 (fun v_4 w_4 h_4 => ?_)
  rcases h_4 with ⟨rfl, rfl, hhy_2⟩ | ⟨rfl, rfl, hhn_3⟩
  · refine V_to (pc' := 7) (ls' := [(0, .ref o), (1, .int i), (2, .ref o), (3, .int j), (4, .int q)]) (st' := [.int (1 : Int32)]) (ws' := [(c, .inl (Y 1, 60, .inr (.inl fc))), (o, .inr (5, [.ref c, .int hd, .int bd, .int so, .int le]))]) ?_ rfl rfl rfl rfl
    refine V_if_eq X (show (1 : Int32).toInt = 1 from by decide) 35 dX6_copyTo_7 (by decide) (fun c_7 => absurd c_7 (by decide)) (fun _ => ?_)
    refine V_aload_n X 2 rfl dX6_copyTo_10 ?_
    refine V_iload_n X 3 rfl dX6_copyTo_11 ?_
    refine V_iload X 4 rfl dX6_copyTo_12 ?_
    refine V_callV (C := RX6) (wr := [(c, .inl (Y 1, 60, .inr (.inl fc)))]) (st := []) X (c_X6_hasStretch l D Y o j q c hd bd so le m_ tle hm) 2 gX6_copyTo_X6_hasStretch rfl (by decide +kernel) ⟨rfl, rfl⟩ ⟨Nat.le_of_ble_eq_true rfl, Nat.le_of_ble_eq_true rfl⟩ [1] [0] rfl rfl rfl rfl (by decide) (ci := 5) rfl rfl 0 rfl rfl rfl (Nat.le_of_ble_eq_true rfl) ⟨Nat.le_of_ble_eq_true rfl, Nat.le_of_ble_eq_true rfl⟩ dX6_copyTo_14 (fun v_14 w_14 h_14 => ?_)
    rcases h_14 with ⟨rfl, rfl, hhy_5⟩ | ⟨rfl, rfl, hhn_6⟩
    · refine V_to (pc' := 17) (ls' := [(0, .ref o), (1, .int i), (2, .ref o), (3, .int j), (4, .int q)]) (st' := [.int (1 : Int32)]) (ws' := [(c, .inl (Y 1, 60, .inr (.inl fc))), (o, .inr (5, [.ref c, .int hd, .int bd, .int so, .int le]))]) ?_ rfl rfl rfl rfl
      refine V_if_eq X (show (1 : Int32).toInt = 1 from by decide) 35 dX6_copyTo_17 (by decide) (fun c_17 => absurd c_17 (by decide)) (fun _ => ?_)
      refine V_aload_n X 0 rfl dX6_copyTo_20 ?_
      refine V_get (C := RX6) (T := TX6) (N := 5) (ci := 5) (v := .ref c) X in_X6_copyTo_X6 1 rfl rfl 0 (by decide) (List.mem_of_getElem? (i := 1) rfl) rfl rfl dX6_copyTo_21 ?_
      refine V_iload_n X 1 rfl dX6_copyTo_24 ?_
      refine V_aload_n X 2 rfl dX6_copyTo_25 ?_
      refine V_get (C := RX6) (T := TX6) (N := 5) (ci := 5) (v := .ref c) X in_X6_copyTo_X6 1 rfl rfl 0 (by decide) (List.mem_of_getElem? (i := 1) rfl) rfl rfl dX6_copyTo_26 ?_
      refine V_iload_n X 3 rfl dX6_copyTo_29 ?_
      refine V_iload X 4 rfl dX6_copyTo_30 ?_
      refine V_copyl (st := []) (ws' := [(c, .inl (Y 1, 60, .inr (.inl (va_cpy fc fc K J NN)))), (o, .inr (5, [.ref c, .int hd, .int bd, .int so, .int le]))]) X (List.mem_of_getElem? (i := 2) rfl) (List.mem_of_getElem? (i := 3) rfl) (List.mem_of_getElem? (i := 4) rfl) (List.mem_of_getElem? (i := 5) rfl) 0 0 K J NN rfl rfl ti tj tq (by omega) (by omega) rfl (Nat.le_of_ble_eq_true rfl) (by decide +kernel) dX6_copyTo_32 ?_
      refine V_ws (ws' := [(o, .inr (5, [.ref c, .int hd, .int bd, .int so, .int le])), (c, .inl (Y 1, 60, .inr (.inl (va_cpy fc fc K J NN))))]) [1, 0] rfl rfl rfl ?_
      exact V_vret X hr dX6_copyTo_35 (⟨rfl, rfl⟩)
    · exfalso; omega
  · exfalso; omega
