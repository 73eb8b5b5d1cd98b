
/-! ===== Acts: the small ones ===== -/
def abv (K : Nat) : Nat → Int
  | 0 => (K : Int)
  | i + 1 => if abv K i < 0 then -1 else (tAbove (abv K i).toNat).toInt
def UND (K : Nat) (a : Int) : Prop := ∃ j, j < 8 ∧ abv K j = a ∧ ∀ i, i ≤ j → 0 ≤ abv K i
theorem tAb_r : ∀ k, k < 8 → -1 ≤ (tAbove k).toInt ∧ (tAbove k).toInt < 8 := by decide
theorem abv_r {K : Nat} (h : K < 8) : ∀ i, -1 ≤ abv K i ∧ abv K i < 8
  | 0 => by show -1 ≤ (K : Int) ∧ (K : Int) < 8; omega
  | i + 1 => by
    have ih := abv_r h i
    show -1 ≤ (if abv K i < 0 then -1 else (tAbove (abv K i).toNat).toInt) ∧ (if abv K i < 0 then -1 else (tAbove (abv K i).toNat).toInt) < 8
    split
    · omega
    · exact tAb_r _ (by omega)
theorem abv_s {K i k : Nat} (h : abv K i = (k : Int)) : abv K (i + 1) = (tAbove k).toInt := by
  show (if abv K i < 0 then -1 else (tAbove (abv K i).toNat).toInt) = _
  rw [h, if_neg (by omega), Int.toNat_natCast]
theorem UND_y {K i : Nat} {a : Int} (hi : i < 8) (h : abv K i = a) (hp : ∀ j, j < i → 0 ≤ abv K j ∧ abv K j ≠ a) (h0 : 0 ≤ a) : UND K a :=
  ⟨i, hi, h, fun j hj => by rcases Nat.lt_or_eq_of_le hj with q | q; exact (hp j q).1; rw [q, h]; exact h0⟩
theorem UND_n {K i : Nat} {a : Int} (h : i = 8 ∨ abv K i < 0) (hp : ∀ j, j < i → 0 ≤ abv K j ∧ abv K j ≠ a) : ¬ UND K a := by
  rintro ⟨j, hj, he, hq⟩
  by_cases c : j < i
  · exact (hp j c).2 he
  · rcases h with h | h
    · omega
    · have := hq i (by omega); omega
set_option maxHeartbeats 4000000 in
set_option maxRecDepth 100000 in
theorem c_X0_isKind (l : Launch) (D : va_G) (Y : Nat → ClassId) (x : Int32) : Mg l yX0_isKind wsX0_isKind ({ frames := 1, cells := 0, slots := 0, locals := 21 }) D Y [] [.int x] 0 0 (fun vv__ ww__ => (vv__ = some (.int (1 : Int32)) ∧ ww__ = [] ∧ (0 ≤ x.toInt ∧ x.toInt < 8)) ∨ (vv__ = some (.int (0 : Int32)) ∧ ww__ = [] ∧ (¬ (0 ≤ x.toInt ∧ x.toInt < 8)))) := by
  refine Mg_of (cc := cX0_isKind) (maxL := 1) (ret := (some .boolean)) (ls0 := [(0, .int x)]) RX0 (by decide) rfl rfl rfl (Nat.le_of_ble_eq_true rfl) (fun p__ e__ s__ m__ b__ t__ c__ X hr hn => ?_)
  refine V_iload_n X 0 rfl dX0_isKind_0 ?_
  refine V_bipush (v := (8 : Int32)) X (by decide) dX0_isKind_1 ?_
  refine V_callSN (host := "TuneAndWords") (wr := []) (st := []) X (c_X10_isOf l D Y x (8 : Int32)) 2 ggX0_isKind_X10_isOf rfl (by decide +kernel) (List.mem_of_getElem? (i := 2) rfl) (List.mem_of_getElem? (i := 1) rfl) (by decide +kernel) ⟨rfl, rfl⟩ ⟨Nat.le_of_ble_eq_true rfl, Nat.le_of_ble_eq_true rfl⟩ [] [] rfl rfl rfl rfl (by decide) rfl rfl (Nat.le_of_ble_eq_true rfl) ⟨Nat.le_of_ble_eq_true rfl, Nat.le_of_ble_eq_true rfl⟩ dX0_isKind_3 (fun v_3 w_3 h_3 => ?_)
  rcases h_3 with ⟨rfl, rfl, hhy_2⟩ | ⟨rfl, rfl, hhn_3⟩
  · refine V_to (pc' := 6) (ls' := [(0, .int x)]) (st' := [.int (1 : Int32)]) (ws' := []) ?_ rfl rfl rfl rfl
    have hc_8 : (8 : Int32).toInt = 8 := by decide
    exact V_zret X hr rfl dX0_isKind_6 (Or.inl ⟨rfl, rfl, (by omega)⟩)
  · refine V_to (pc' := 6) (ls' := [(0, .int x)]) (st' := [.int (0 : Int32)]) (ws' := []) ?_ rfl rfl rfl rfl
    have hc_8 : (8 : Int32).toInt = 8 := by decide
    exact V_zret X hr rfl dX0_isKind_6 (Or.inr (⟨rfl, rfl, (by omega)⟩))

set_option maxHeartbeats 4000000 in
set_option maxRecDepth 100000 in
theorem c_X0_nextAbove (l : Launch) (D : va_G) (Y : Nat → ClassId) (x : Int32) (k : Nat) (tx : x.toInt = ((k : Nat) : Int)) (hk : k < 8) : Mg l yX0_nextAbove wsX0_nextAbove ({ frames := 1, cells := 0, slots := 0, locals := 21 }) D Y [] [.int x] 0 0 (fun vv__ ww__ => (vv__ = some (.int (tAbove k)) ∧ ww__ = [])) := by
  refine Mg_of (cc := cX0_nextAbove) (maxL := 1) (ret := (some .int)) (ls0 := [(0, .int x)]) RX0 (by decide) rfl rfl rfl (Nat.le_of_ble_eq_true rfl) (fun p__ e__ s__ m__ b__ t__ c__ X hr hn => ?_)
  refine V_iload_n X 0 rfl dX0_nextAbove_0 ?_
  refine V_getsA X (List.mem_of_getElem? (i := 1) rfl) dX0_nextAbove_1 ?_
  refine V_tlenA X dX0_nextAbove_4 ?_
  refine V_callSN (host := "TuneAndWords") (wr := []) (st := []) X (c_X10_isOf l D Y x (8 : Int32)) 2 ggX0_nextAbove_X10_isOf rfl (by decide +kernel) (List.mem_of_getElem? (i := 3) rfl) (List.mem_of_getElem? (i := 2) rfl) (by decide +kernel) ⟨rfl, rfl⟩ ⟨Nat.le_of_ble_eq_true rfl, Nat.le_of_ble_eq_true rfl⟩ [] [] rfl rfl rfl rfl (by decide) rfl rfl (Nat.le_of_ble_eq_true rfl) ⟨Nat.le_of_ble_eq_true rfl, Nat.le_of_ble_eq_true rfl⟩ dX0_nextAbove_5 (fun v_5 w_5 h_5 => ?_)
  rcases h_5 with ⟨rfl, rfl, hhy_2⟩ | ⟨rfl, rfl, hhn_3⟩
  · refine V_to (pc' := 8) (ls' := [(0, .int x)]) (st' := [.int (1 : Int32)]) (ws' := []) ?_ rfl rfl rfl rfl
    have hc_8 : (8 : Int32).toInt = 8 := by decide
    refine V_if_eq X (show (1 : Int32).toInt = 1 from by decide) 19 dX0_nextAbove_8 (by decide) (fun c_8 => absurd c_8 (by decide)) (fun _ => ?_)
    refine V_getsA X (List.mem_of_getElem? (i := 1) rfl) dX0_nextAbove_11 ?_
    refine V_iload_n X 0 rfl dX0_nextAbove_14 ?_
    refine V_tldA X k tx (by omega) dX0_nextAbove_15 ?_
    refine V_goto X 20 (by decide) dX0_nextAbove_16 ?_
    exact V_iret X hr dX0_nextAbove_20 (⟨(by first | rfl | (congr 2)), rfl⟩)
  · exfalso; have hc8 : (8 : Int32).toInt = 8 := (by decide); omega

set_option maxHeartbeats 4000000 in
set_option maxRecDepth 100000 in
theorem c_X1_at_O (l : Launch) (D : va_G) (Y : Nat → ClassId) (i : Int32) (k : Nat) (ti : i.toInt = ((k : Nat) : Int)) (hk : k < 32) : Mg l yX1_at wsX1_at ({ frames := 0, cells := 0, slots := 0, locals := 0 }) D Y [] [.ref (Y 7), .int i] 0 0 (fun vv__ ww__ => (vv__ = some (.int (tOwn k)) ∧ ww__ = [])) := by
  refine Mg_of (cc := cX1_at) (maxL := 2) (ret := (some .int)) (ls0 := [(0, .ref (Y 7)), (1, .int i)]) RX1 (by decide) rfl rfl rfl (Nat.le_of_ble_eq_true rfl) (fun p__ e__ s__ m__ b__ t__ c__ X hr hn => ?_)
  refine V_iload_n X 1 rfl dX1_at_0 ?_
  refine V_if_lt X ti 16 dX1_at_1 (by decide) (fun c_1 => False.elim (by omega)) (fun c_1 => ?_)
  refine V_iload_n X 1 rfl dX1_at_4 ?_
  refine V_aload_n X 0 rfl dX1_at_5 ?_
  refine V_tlenO X dX1_at_6 ?_
  refine V_icmp_ge X ti (show (32 : Int32).toInt = 32 from by decide) 16 dX1_at_7 (by decide) (fun c_7 => False.elim (by omega)) (fun c_7 => ?_)
  refine V_aload_n X 0 rfl dX1_at_10 ?_
  refine V_iload_n X 1 rfl dX1_at_11 ?_
  refine V_tldO X k ti (by omega) dX1_at_12 ?_
  refine V_goto X 17 (by decide) dX1_at_13 ?_
  exact V_iret X hr dX1_at_17 (⟨(by first | rfl | (congr 2)), rfl⟩)

set_option maxHeartbeats 4000000 in
set_option maxRecDepth 100000 in
theorem c_X0_ownBody (l : Launch) (D : va_G) (Y : Nat → ClassId) (x : Int32) (k : Nat) (y : Int32) (a : Nat) (tx : x.toInt = ((k : Nat) : Int)) (hk : k < 8) (ty : y.toInt = ((a : Nat) : Int)) (ha : a < 4) : Mg l yX0_ownBody wsX0_ownBody ({ frames := 1, cells := 0, slots := 0, locals := 21 }) D Y [] [.int x, .int y] 0 0 (fun vv__ ww__ => (vv__ = some (.int (tOwn (4 * k + a))) ∧ ww__ = [])) := by
  refine Mg_of (cc := cX0_ownBody) (maxL := 2) (ret := (some .int)) (ls0 := [(0, .int x), (1, .int y)]) RX0 (by decide) rfl rfl rfl (Nat.le_of_ble_eq_true rfl) (fun p__ e__ s__ m__ b__ t__ c__ X hr hn => ?_)
  refine V_getsO X (List.mem_of_getElem? (i := 1) rfl) dX0_ownBody_0 ?_
  refine V_iload_n X 0 rfl dX0_ownBody_3 ?_
  refine V_iconst (v := (4 : Int32)) X (by decide) dX0_ownBody_4 ?_
  refine V_imulZ X tx (show (4 : Int32).toInt = 4 from by decide) (by omega) (by omega) dX0_ownBody_5 (fun x_1 ex_1 tx_1 => ?_)
  have tx_1 : x_1.toInt = (((4 * k) : Nat) : Int) := by omega
  refine V_iload_n X 1 rfl dX0_ownBody_6 ?_
  refine V_iaddZ X tx_1 ty (by omega) (by omega) dX0_ownBody_7 (fun x_2 ex_2 tx_2 => ?_)
  have tx_2 : x_2.toInt = (((4 * k + a) : Nat) : Int) := by omega
  refine V_callS (wr := []) (st := []) X (c_X1_at_O l D Y x_2 (4 * k + a) tx_2 (by omega)) 2 gX0_ownBody_X1_at rfl (by decide +kernel) ⟨rfl, rfl⟩ ⟨Nat.le_of_ble_eq_true rfl, Nat.le_of_ble_eq_true rfl⟩ [] [] rfl rfl rfl rfl (by decide) rfl rfl (Nat.le_of_ble_eq_true rfl) ⟨Nat.le_of_ble_eq_true rfl, Nat.le_of_ble_eq_true rfl⟩ dX0_ownBody_8 (fun v_8 w_8 h_8 => ?_)
  obtain ⟨rfl, rfl⟩ := h_8
  refine V_to (pc' := 11) (ls' := [(0, .int x), (1, .int y)]) (st' := [.int (tOwn (4 * k + a))]) (ws' := []) ?_ rfl rfl rfl rfl
  exact V_iret X hr dX0_ownBody_11 (⟨rfl, rfl⟩)

theorem in_X0_isFull_X0 : ∀ w ∈ wsX00, w ∈ wsX0_isFull := fun w h => List.mem_cons_of_mem _ (List.mem_append_right _ h)
set_option maxHeartbeats 4000000 in
set_option maxRecDepth 100000 in
theorem c_X0_isFull (l : Launch) (D : va_G) (Y : Nat → ClassId) (at_ : Nat) (ka : Nat) (ta : Nat) (asz : Int32) (arn : Int32) (aac : Int32) : Mg l yX0_isFull wsX0_isFull ({ frames := 0, cells := 0, slots := 0, locals := 0 }) D Y [(at_, .inr (0, [.ref ka, .ref ta, .int asz, .int arn, .int aac]))] [.ref at_] 0 0 (fun vv__ ww__ => (vv__ = some (.int (1 : Int32)) ∧ ww__ = [(at_, .inr (0, [.ref ka, .ref ta, .int asz, .int arn, .int aac]))] ∧ (50 ≤ asz.toInt)) ∨ (vv__ = some (.int (0 : Int32)) ∧ ww__ = [(at_, .inr (0, [.ref ka, .ref ta, .int asz, .int arn, .int aac]))] ∧ (asz.toInt < 50))) := by
  refine Mg_of (cc := cX0_isFull) (maxL := 1) (ret := (some .boolean)) (ls0 := [(0, .ref at_)]) RX0 (by decide) rfl rfl rfl (Nat.le_of_ble_eq_true rfl) (fun p__ e__ s__ m__ b__ t__ c__ X hr hn => ?_)
  refine V_aload_n X 0 rfl dX0_isFull_0 ?_
  refine V_get (C := RX0) (T := TX0) (N := 5) (ci := 0) (v := .int asz) X in_X0_isFull_X0 0 rfl rfl 2 (by decide) (List.mem_of_getElem? (i := 1) rfl) rfl rfl dX0_isFull_1 ?_
  refine V_bipush (v := (50 : Int32)) X (by decide) dX0_isFull_4 ?_
  refine V_icmp_lt X rfl (show (50 : Int32).toInt = 50 from by decide) 13 dX0_isFull_6 (by decide) (fun c_6 => ?_) (fun c_6 => ?_)
  · refine V_iconst (v := (0 : Int32)) X (by decide) dX0_isFull_13 ?_
    exact V_zret X hr rfl dX0_isFull_14 (Or.inr (⟨rfl, rfl, c_6⟩))
  · refine V_iconst (v := (1 : Int32)) X (by decide) dX0_isFull_9 ?_
    refine V_goto X 14 (by decide) dX0_isFull_10 ?_
    exact V_zret X hr rfl dX0_isFull_14 (Or.inl ⟨rfl, rfl, c_6⟩)

theorem in_X0_addBody_X0 : ∀ w ∈ wsX00, w ∈ wsX0_addBody := fun w h => List.mem_cons_of_mem _ (List.mem_append_right _ h)
set_option maxHeartbeats 4000000 in
set_option maxRecDepth 100000 in
theorem c_X0_addBody (l : Launch) (D : va_G) (Y : Nat → ClassId) (at_ : Nat) (ka : Nat) (ta : Nat) (asz : Int32) (arn : Int32) (aac : Int32) (nb_ : Nat) (x : Int32) (fk : Nat → Int32) (tasz : asz.toInt = ((nb_ : Nat) : Int)) (hnb : nb_ ≤ 50) (hlt : nb_ < 50) : Mg l yX0_addBody wsX0_addBody ({ frames := 1, cells := 0, slots := 0, locals := 22 }) D Y [(at_, .inr (0, [.ref ka, .ref ta, .int asz, .int arn, .int aac])), (ka, .inl (Y 0, 50, .inl fk))] [.ref at_, .int x] 0 0 (fun vv__ ww__ => (∃ (r : Int32), ∃ (sz2 : Int32), vv__ = some (.int r) ∧ ww__ = [(at_, .inr (0, [.ref ka, .ref ta, .int sz2, .int arn, .int aac])), (ka, .inl (Y 0, 50, .inl (upd fk nb_ x)))] ∧ (r.toInt = ((nb_ : Nat) : Int)) ∧ (sz2.toInt = ((nb_ + 1 : Nat) : Int)))) := by
  refine Mg_of (cc := cX0_addBody) (maxL := 2) (ret := (some .int)) (ls0 := [(0, .ref at_), (1, .int x)]) RX0 (by decide) rfl rfl rfl (Nat.le_of_ble_eq_true rfl) (fun p__ e__ s__ m__ b__ t__ c__ X hr hn => ?_)
  refine V_aload_n X 0 rfl dX0_addBody_0 ?_
  refine V_get (C := RX0) (T := TX0) (N := 5) (ci := 0) (v := .ref ka) X in_X0_addBody_X0 0 rfl rfl 0 (by decide) (List.mem_of_getElem? (i := 1) rfl) rfl rfl dX0_addBody_1 ?_
  refine V_aload_n X 0 rfl dX0_addBody_4 ?_
  refine V_get (C := RX0) (T := TX0) (N := 5) (ci := 0) (v := .int asz) X in_X0_addBody_X0 0 rfl rfl 2 (by decide) (List.mem_of_getElem? (i := 2) rfl) rfl rfl dX0_addBody_5 ?_
  refine V_iload_n X 1 rfl dX0_addBody_8 ?_
  refine V_callS (wr := [(at_, .inr (0, [.ref ka, .ref ta, .int asz, .int arn, .int aac]))]) (st := []) X (c_X1_set l D Y ka asz nb_ x 50 fk tasz hlt (by omega)) 3 gX0_addBody_X1_set rfl (by decide +kernel) ⟨rfl, rfl⟩ ⟨Nat.le_of_ble_eq_true rfl, Nat.le_of_ble_eq_true rfl⟩ [1] [0] rfl rfl rfl rfl (by decide) rfl rfl (Nat.le_of_ble_eq_true rfl) ⟨Nat.le_of_ble_eq_true rfl, Nat.le_of_ble_eq_true rfl⟩ dX0_addBody_9 (fun v_9 w_9 h_9 => ?_)
  obtain ⟨rfl, rfl⟩ := h_9
  refine V_to (pc' := 12) (ls' := [(0, .ref at_), (1, .int x)]) (st' := []) (ws' := [(at_, .inr (0, [.ref ka, .ref ta, .int asz, .int arn, .int aac])), (ka, .inl (Y 0, 50, .inl (upd fk nb_ x)))]) ?_ rfl rfl rfl rfl
  refine V_aload_n X 0 rfl dX0_addBody_12 ?_
  refine V_dup X rfl dX0_addBody_13 ?_
  refine V_get (C := RX0) (T := TX0) (N := 5) (ci := 0) (v := .int asz) X in_X0_addBody_X0 0 rfl rfl 2 (by decide) (List.mem_of_getElem? (i := 2) rfl) rfl rfl dX0_addBody_14 ?_
  refine V_iconst (v := (1 : Int32)) X (by decide) dX0_addBody_17 ?_
  refine V_iaddZ X tasz (show (1 : Int32).toInt = 1 from by decide) (by omega) (by omega) dX0_addBody_18 (fun x_2 ex_2 tx_2 => ?_)
  have tx_2 : x_2.toInt = (((nb_ + 1) : Nat) : Int) := by omega
  refine V_put (C := RX0) (T := TX0) (N := 5) (ci := 0) (v := .int x_2) (ty := tyX0 2) (ws' := [(at_, .inr (0, [.ref ka, .ref ta, .int x_2, .int arn, .int aac])), (ka, .inl (Y 0, 50, .inl (upd fk nb_ x)))]) X in_X0_addBody_X0 0 rfl rfl 2 (by decide) (List.mem_of_getElem? (i := 2) rfl) rfl tyX0 tyX0_ok nmX0 rfl (tyX0_ok 2 (by decide)) rfl rfl (Nat.le_of_ble_eq_true rfl) rfl dX0_addBody_19 ?_
  refine V_aload_n X 0 rfl dX0_addBody_22 ?_
  refine V_get (C := RX0) (T := TX0) (N := 5) (ci := 0) (v := .int x_2) X in_X0_addBody_X0 0 rfl rfl 2 (by decide) (List.mem_of_getElem? (i := 2) rfl) rfl rfl dX0_addBody_23 ?_
  refine V_iconst (v := (1 : Int32)) X (by decide) dX0_addBody_26 ?_
  refine V_isubZ X tx_2 (show (1 : Int32).toInt = 1 from by decide) (by omega) (by omega) dX0_addBody_27 (fun x_3 ex_3 tx_3 => ?_)
  have tx_3 : x_3.toInt = ((nb_ : Nat) : Int) := by omega
  exact V_iret X hr dX0_addBody_28 (⟨x_3, x_2, rfl, rfl, (by have h9 : x_3.toInt = ((nb_ : Nat) : Int) := tx_3; omega), (by omega)⟩)

theorem in_X0_isBody_X0 : ∀ w ∈ wsX00, w ∈ wsX0_isBody := fun w h => List.mem_cons_of_mem _ (List.mem_append_right _ h)
set_option maxHeartbeats 4000000 in
set_option maxRecDepth 100000 in
theorem c_X0_isBody (l : Launch) (D : va_G) (Y : Nat → ClassId) (at_ : Nat) (ka : Nat) (ta : Nat) (asz : Int32) (arn : Int32) (aac : Int32) (x : Int32) : Mg l yX0_isBody wsX0_isBody ({ frames := 1, cells := 0, slots := 0, locals := 21 }) D Y [(at_, .inr (0, [.ref ka, .ref ta, .int asz, .int arn, .int aac]))] [.ref at_, .int x] 0 0 (fun vv__ ww__ => (vv__ = some (.int (1 : Int32)) ∧ ww__ = [(at_, .inr (0, [.ref ka, .ref ta, .int asz, .int arn, .int aac]))] ∧ (0 ≤ x.toInt ∧ x.toInt < asz.toInt)) ∨ (vv__ = some (.int (0 : Int32)) ∧ ww__ = [(at_, .inr (0, [.ref ka, .ref ta, .int asz, .int arn, .int aac]))] ∧ (¬ (0 ≤ x.toInt ∧ x.toInt < asz.toInt)))) := by
  refine Mg_of (cc := cX0_isBody) (maxL := 2) (ret := (some .boolean)) (ls0 := [(0, .ref at_), (1, .int x)]) RX0 (by decide) rfl rfl rfl (Nat.le_of_ble_eq_true rfl) (fun p__ e__ s__ m__ b__ t__ c__ X hr hn => ?_)
  refine V_iload_n X 1 rfl dX0_isBody_0 ?_
  refine V_aload_n X 0 rfl dX0_isBody_1 ?_
  refine V_get (C := RX0) (T := TX0) (N := 5) (ci := 0) (v := .int asz) X in_X0_isBody_X0 0 rfl rfl 2 (by decide) (List.mem_of_getElem? (i := 1) rfl) rfl rfl dX0_isBody_2 ?_
  refine V_callSN (host := "TuneAndWords") (wr := [(at_, .inr (0, [.ref ka, .ref ta, .int asz, .int arn, .int aac]))]) (st := []) X (c_X10_isOf l D Y x asz) 2 ggX0_isBody_X10_isOf rfl (by decide +kernel) (List.mem_of_getElem? (i := 3) rfl) (List.mem_of_getElem? (i := 2) rfl) (by decide +kernel) ⟨rfl, rfl⟩ ⟨Nat.le_of_ble_eq_true rfl, Nat.le_of_ble_eq_true rfl⟩ [] [0] rfl rfl rfl rfl (by decide) rfl rfl (Nat.le_of_ble_eq_true rfl) ⟨Nat.le_of_ble_eq_true rfl, Nat.le_of_ble_eq_true rfl⟩ dX0_isBody_5 (fun v_5 w_5 h_5 => ?_)
  rcases h_5 with ⟨rfl, rfl, hhy_2⟩ | ⟨rfl, rfl, hhn_3⟩
  · refine V_to (pc' := 8) (ls' := [(0, .ref at_), (1, .int x)]) (st' := [.int (1 : Int32)]) (ws' := [(at_, .inr (0, [.ref ka, .ref ta, .int asz, .int arn, .int aac]))]) ?_ rfl rfl rfl rfl
    exact V_zret X hr rfl dX0_isBody_8 (Or.inl ⟨rfl, rfl, hhy_2⟩)
  · refine V_to (pc' := 8) (ls' := [(0, .ref at_), (1, .int x)]) (st' := [.int (0 : Int32)]) (ws' := [(at_, .inr (0, [.ref ka, .ref ta, .int asz, .int arn, .int aac]))]) ?_ rfl rfl rfl rfl
    exact V_zret X hr rfl dX0_isBody_8 (Or.inr (⟨rfl, rfl, hhn_3⟩))

theorem in_X0_kindOf_X0 : ∀ w ∈ wsX00, w ∈ wsX0_kindOf := fun w h => List.mem_cons_of_mem _ (List.mem_append_right _ h)
set_option maxHeartbeats 4000000 in
set_option maxRecDepth 100000 in
theorem c_X0_kindOf (l : Launch) (D : va_G) (Y : Nat → ClassId) (at_ : Nat) (ka : Nat) (ta : Nat) (asz : Int32) (arn : Int32) (aac : Int32) (x : Int32) (k : Nat) (fk : Nat → Int32) (tx : x.toInt = ((k : Nat) : Int)) (hk : k < 50) : Mg l yX0_kindOf wsX0_kindOf ({ frames := 1, cells := 0, slots := 0, locals := 21 }) D Y [(at_, .inr (0, [.ref ka, .ref ta, .int asz, .int arn, .int aac])), (ka, .inl (Y 0, 50, .inl fk))] [.ref at_, .int x] 0 0 (fun vv__ ww__ => (vv__ = some (.int (fk k)) ∧ ww__ = [(at_, .inr (0, [.ref ka, .ref ta, .int asz, .int arn, .int aac])), (ka, .inl (Y 0, 50, .inl fk))])) := by
  refine Mg_of (cc := cX0_kindOf) (maxL := 2) (ret := (some .int)) (ls0 := [(0, .ref at_), (1, .int x)]) RX0 (by decide) rfl rfl rfl (Nat.le_of_ble_eq_true rfl) (fun p__ e__ s__ m__ b__ t__ c__ X hr hn => ?_)
  refine V_aload_n X 0 rfl dX0_kindOf_0 ?_
  refine V_get (C := RX0) (T := TX0) (N := 5) (ci := 0) (v := .ref ka) X in_X0_kindOf_X0 0 rfl rfl 0 (by decide) (List.mem_of_getElem? (i := 1) rfl) rfl rfl dX0_kindOf_1 ?_
  refine V_iload_n X 1 rfl dX0_kindOf_4 ?_
  refine V_callS (wr := [(at_, .inr (0, [.ref ka, .ref ta, .int asz, .int arn, .int aac]))]) (st := []) X (c_X1_at l D Y ka x k 50 fk tx hk (by omega)) 2 gX0_kindOf_X1_at rfl (by decide +kernel) ⟨rfl, rfl⟩ ⟨Nat.le_of_ble_eq_true rfl, Nat.le_of_ble_eq_true rfl⟩ [1] [0] rfl rfl rfl rfl (by decide) rfl rfl (Nat.le_of_ble_eq_true rfl) ⟨Nat.le_of_ble_eq_true rfl, Nat.le_of_ble_eq_true rfl⟩ dX0_kindOf_5 (fun v_5 w_5 h_5 => ?_)
  obtain ⟨rfl, rfl⟩ := h_5
  refine V_to (pc' := 8) (ls' := [(0, .ref at_), (1, .int x)]) (st' := [.int (fk k)]) (ws' := [(at_, .inr (0, [.ref ka, .ref ta, .int asz, .int arn, .int aac])), (ka, .inl (Y 0, 50, .inl fk))]) ?_ rfl rfl rfl rfl
  exact V_iret X hr dX0_kindOf_8 (⟨rfl, rfl⟩)

theorem in_X0_bodies_X0 : ∀ w ∈ wsX00, w ∈ wsX0_bodies := fun w h => List.mem_cons_of_mem _ (List.mem_append_right _ h)
set_option maxHeartbeats 4000000 in
set_option maxRecDepth 100000 in
theorem c_X0_bodies (l : Launch) (D : va_G) (Y : Nat → ClassId) (at_ : Nat) (ka : Nat) (ta : Nat) (asz : Int32) (arn : Int32) (aac : Int32) : Mg l yX0_bodies wsX0_bodies ({ frames := 0, cells := 0, slots := 0, locals := 0 }) D Y [(at_, .inr (0, [.ref ka, .ref ta, .int asz, .int arn, .int aac]))] [.ref at_] 0 0 (fun vv__ ww__ => (vv__ = some (.int asz) ∧ ww__ = [(at_, .inr (0, [.ref ka, .ref ta, .int asz, .int arn, .int aac]))])) := by
  refine Mg_of (cc := cX0_bodies) (maxL := 1) (ret := (some .int)) (ls0 := [(0, .ref at_)]) RX0 (by decide) rfl rfl rfl (Nat.le_of_ble_eq_true rfl) (fun p__ e__ s__ m__ b__ t__ c__ X hr hn => ?_)
  refine V_aload_n X 0 rfl dX0_bodies_0 ?_
  refine V_get (C := RX0) (T := TX0) (N := 5) (ci := 0) (v := .int asz) X in_X0_bodies_X0 0 rfl rfl 2 (by decide) (List.mem_of_getElem? (i := 1) rfl) rfl rfl dX0_bodies_1 ?_
  exact V_iret X hr dX0_bodies_4 (⟨rfl, rfl⟩)

theorem in_X0_ran_X0 : ∀ w ∈ wsX00, w ∈ wsX0_ran := fun w h => List.mem_cons_of_mem _ (List.mem_append_right _ h)
set_option maxHeartbeats 4000000 in
set_option maxRecDepth 100000 in
theorem c_X0_ran (l : Launch) (D : va_G) (Y : Nat → ClassId) (at_ : Nat) (ka : Nat) (ta : Nat) (asz : Int32) (arn : Int32) (aac : Int32) : Mg l yX0_ran wsX0_ran ({ frames := 0, cells := 0, slots := 0, locals := 0 }) D Y [(at_, .inr (0, [.ref ka, .ref ta, .int asz, .int arn, .int aac]))] [.ref at_] 0 0 (fun vv__ ww__ => (vv__ = some (.int arn) ∧ ww__ = [(at_, .inr (0, [.ref ka, .ref ta, .int asz, .int arn, .int aac]))])) := by
  refine Mg_of (cc := cX0_ran) (maxL := 1) (ret := (some .int)) (ls0 := [(0, .ref at_)]) RX0 (by decide) rfl rfl rfl (Nat.le_of_ble_eq_true rfl) (fun p__ e__ s__ m__ b__ t__ c__ X hr hn => ?_)
  refine V_aload_n X 0 rfl dX0_ran_0 ?_
  refine V_get (C := RX0) (T := TX0) (N := 5) (ci := 0) (v := .int arn) X in_X0_ran_X0 0 rfl rfl 3 (by decide) (List.mem_of_getElem? (i := 1) rfl) rfl rfl dX0_ran_1 ?_
  exact V_iret X hr dX0_ran_4 (⟨rfl, rfl⟩)

theorem in_X0_traced_X0 : ∀ w ∈ wsX00, w ∈ wsX0_traced := fun w h => List.mem_cons_of_mem _ (List.mem_append_right _ h)
set_option maxHeartbeats 4000000 in
set_option maxRecDepth 100000 in
theorem c_X0_traced (l : Launch) (D : va_G) (Y : Nat → ClassId) (at_ : Nat) (ka : Nat) (ta : Nat) (asz : Int32) (arn : Int32) (aac : Int32) (i : Int32) (fta : Nat → Int32) : Mg l yX0_traced wsX0_traced ({ frames := 1, cells := 0, slots := 0, locals := 64 }) D Y [(at_, .inr (0, [.ref ka, .ref ta, .int asz, .int arn, .int aac])), (ta, .inl (Y 0, 24, .inl fta))] [.ref at_, .int i] 0 0 (fun vv__ ww__ => (vv__ = some (.int (-1 : Int32)) ∧ ww__ = [(at_, .inr (0, [.ref ka, .ref ta, .int asz, .int arn, .int aac])), (ta, .inl (Y 0, 24, .inl fta))] ∧ (¬ (0 ≤ i.toInt ∧ i.toInt < arn.toInt ∧ i.toInt < 24))) ∨ (∃ (r : Int32), ∃ (k : Nat), vv__ = some (.int r) ∧ ww__ = [(at_, .inr (0, [.ref ka, .ref ta, .int asz, .int arn, .int aac])), (ta, .inl (Y 0, 24, .inl fta))] ∧ (i.toInt = ((k : Nat) : Int)) ∧ (i.toInt < arn.toInt ∧ k < 24) ∧ (r = fta k))) := by
  refine Mg_of (cc := cX0_traced) (maxL := 2) (ret := (some .int)) (ls0 := [(0, .ref at_), (1, .int i)]) RX0 (by decide) rfl rfl rfl (Nat.le_of_ble_eq_true rfl) (fun p__ e__ s__ m__ b__ t__ c__ X hr hn => ?_)
  refine V_iload_n X 1 rfl dX0_traced_0 ?_
  refine V_aload_n X 0 rfl dX0_traced_1 ?_
  refine V_get (C := RX0) (T := TX0) (N := 5) (ci := 0) (v := .int arn) X in_X0_traced_X0 0 rfl rfl 3 (by decide) (List.mem_of_getElem? (i := 1) rfl) rfl rfl dX0_traced_2 ?_
  refine V_bipush (v := (24 : Int32)) X (by decide) dX0_traced_5 ?_
  refine V_mmin (st := [.int i]) X (List.mem_of_getElem? (i := 2) rfl) (List.mem_of_getElem? (i := 3) rfl) (List.mem_of_getElem? (i := 4) rfl) (List.mem_of_getElem? (i := 5) rfl) (Nat.le_of_ble_eq_true rfl) (Nat.le_of_ble_eq_true rfl) (Nat.zero_le _) (Nat.zero_le _) rfl (show (24 : Int32).toInt = 24 from by decide) dX0_traced_7 (fun x_1 ex_1 tx_1 => ?_)
  refine V_callSN (host := "TuneAndWords") (wr := [(at_, .inr (0, [.ref ka, .ref ta, .int asz, .int arn, .int aac])), (ta, .inl (Y 0, 24, .inl fta))]) (st := []) X (c_X10_isOf l D Y i x_1) 2 ggX0_traced_X10_isOf rfl (by decide +kernel) (List.mem_of_getElem? (i := 8) rfl) (List.mem_of_getElem? (i := 7) rfl) (by decide +kernel) ⟨rfl, rfl⟩ ⟨Nat.le_of_ble_eq_true rfl, Nat.le_of_ble_eq_true rfl⟩ [] [0, 1] rfl rfl rfl rfl (by decide) rfl rfl (Nat.le_of_ble_eq_true rfl) ⟨Nat.le_of_ble_eq_true rfl, Nat.le_of_ble_eq_true rfl⟩ dX0_traced_10 (fun v_10 w_10 h_10 => ?_)
  rcases h_10 with ⟨rfl, rfl, hhy_3⟩ | ⟨rfl, rfl, hhn_4⟩
  · refine V_to (pc' := 13) (ls' := [(0, .ref at_), (1, .int i)]) (st' := [.int (1 : Int32)]) (ws' := [(at_, .inr (0, [.ref ka, .ref ta, .int asz, .int arn, .int aac])), (ta, .inl (Y 0, 24, .inl fta))]) ?_ rfl rfl rfl rfl
    refine V_if_eq X (show (1 : Int32).toInt = 1 from by decide) 27 dX0_traced_13 (by decide) (fun c_13 => absurd c_13 (by decide)) (fun _ => ?_)
    obtain ⟨k, ti⟩ : ∃ k : Nat, i.toInt = ((k : Nat) : Int) := ⟨i.toInt.toNat, by omega⟩
    · refine V_aload_n X 0 rfl dX0_traced_16 ?_
      refine V_get (C := RX0) (T := TX0) (N := 5) (ci := 0) (v := .ref ta) X in_X0_traced_X0 0 rfl rfl 1 (by decide) (List.mem_of_getElem? (i := 6) rfl) rfl rfl dX0_traced_17 ?_
      refine V_iload_n X 1 rfl dX0_traced_20 ?_
      refine V_callS (wr := [(at_, .inr (0, [.ref ka, .ref ta, .int asz, .int arn, .int aac]))]) (st := []) X (c_X1_at l D Y ta i k 24 fta ti (by omega) (by omega)) 2 gX0_traced_X1_at rfl (by decide +kernel) ⟨rfl, rfl⟩ ⟨Nat.le_of_ble_eq_true rfl, Nat.le_of_ble_eq_true rfl⟩ [1] [0] rfl rfl rfl rfl (by decide) rfl rfl (Nat.le_of_ble_eq_true rfl) ⟨Nat.le_of_ble_eq_true rfl, Nat.le_of_ble_eq_true rfl⟩ dX0_traced_21 (fun v_21 w_21 h_21 => ?_)
      obtain ⟨rfl, rfl⟩ := h_21
      refine V_to (pc' := 24) (ls' := [(0, .ref at_), (1, .int i)]) (st' := [.int (fta k)]) (ws' := [(at_, .inr (0, [.ref ka, .ref ta, .int asz, .int arn, .int aac])), (ta, .inl (Y 0, 24, .inl fta))]) ?_ rfl rfl rfl rfl
      refine V_goto X 28 (by decide) dX0_traced_24 ?_
      exact V_iret X hr dX0_traced_28 (Or.inr (⟨(fta k), k, rfl, rfl, ti, (by omega), rfl⟩))
  · refine V_to (pc' := 13) (ls' := [(0, .ref at_), (1, .int i)]) (st' := [.int (0 : Int32)]) (ws' := [(at_, .inr (0, [.ref ka, .ref ta, .int asz, .int arn, .int aac])), (ta, .inl (Y 0, 24, .inl fta))]) ?_ rfl rfl rfl rfl
    refine V_if_eq X (show (0 : Int32).toInt = 0 from by decide) 27 dX0_traced_13 (by decide) (fun _ => ?_) (fun c_13 => absurd c_13 (by decide))
    refine V_iconst (v := (-1 : Int32)) X (by decide) dX0_traced_27 ?_
    exact V_iret X hr dX0_traced_28 (Or.inl ⟨rfl, rfl, (by omega)⟩)

set_option maxHeartbeats 4000000 in
set_option maxRecDepth 100000 in
theorem c_X0_isUnder (l : Launch) (D : va_G) (Y : Nat → ClassId) (x : Int32) (K : Nat) (y : Int32) (tx : x.toInt = ((K : Nat) : Int)) (hK : K < 8) (hy0 : 0 ≤ y.toInt) : Mg l yX0_isUnder wsX0_isUnder ({ frames := 2, cells := 0, slots := 0, locals := 41 }) D Y [] [.int x, .int y] 0 0 (fun vv__ ww__ => (vv__ = some (.int (1 : Int32)) ∧ ww__ = [] ∧ (UND K y.toInt)) ∨ (vv__ = some (.int (0 : Int32)) ∧ ww__ = [] ∧ (¬ UND K y.toInt))) := by
  refine Mg_of (cc := cX0_isUnder) (maxL := 4) (ret := (some .boolean)) (ls0 := [(0, .int x), (1, .int y)]) RX0 (by decide) rfl rfl rfl (Nat.le_of_ble_eq_true rfl) (fun p__ e__ s__ m__ b__ t__ c__ X hr hn => ?_)
  refine V_iload_n X 0 rfl dX0_isUnder_0 ?_
  refine V_istore_n (ls' := [(2, .int x), (0, .int x), (1, .int y)]) X (by decide) rfl dX0_isUnder_1 ?_
  refine V_iconst (v := (0 : Int32)) X (by decide) dX0_isUnder_2 ?_
  refine V_istore_n (ls' := [(3, .int (0 : Int32)), (2, .int x), (0, .int x), (1, .int y)]) X (by decide) rfl dX0_isUnder_3 ?_
  refine V_ls (ls' := [(0, .int x), (1, .int y), (2, .int x), (3, .int (0 : Int32))]) [2, 3, 1, 0] rfl ?_
  refine V_to (V_ind3 (fun (i3 : Int32) (i : Nat) (u2 : Int32) => (i3.toInt = ((i : Nat) : Int)) ∧ (i ≤ 8) ∧ (abv K i = u2.toInt) ∧ (∀ j, j < i → 0 ≤ abv K j ∧ abv K j ≠ y.toInt)) (fun (i3 : Int32) (i : Nat) (u2 : Int32) => 8 - i) (fun (i3 : Int32) (i : Nat) (u2 : Int32) => [(0, .int x), (1, .int y), (2, .int u2), (3, .int i3)]) (fun (i3 : Int32) (i : Nat) (u2 : Int32) => []) (fun i3 i u2 hI_4 ih_4 => ?_) (0 : Int32) 0 x ?_) rfl rfl rfl rfl
  · obtain ⟨ti3, hi8, hu2, hab⟩ := hI_4
    refine V_to (ls' := [(0, .int x), (1, .int y), (2, .int u2), (3, .int i3)]) (ws' := []) ?_ rfl rfl rfl rfl
    refine V_iload_n X 3 rfl dX0_isUnder_4 ?_
    refine V_bipush (v := (8 : Int32)) X (by decide) dX0_isUnder_5 ?_
    refine V_icmp_ge X ti3 (show (8 : Int32).toInt = 8 from by decide) 32 dX0_isUnder_7 (by decide) (fun c_7 => ?_) (fun c_7 => ?_)
    · refine V_iconst (v := (0 : Int32)) X (by decide) dX0_isUnder_32 ?_
      exact V_zret X hr rfl dX0_isUnder_33 (Or.inr (⟨rfl, rfl, (UND_n (Or.inl (by omega)) hab)⟩))
    · refine V_iload_n X 2 rfl dX0_isUnder_10 ?_
      refine V_if_lt X rfl 32 dX0_isUnder_11 (by decide) (fun c_11 => ?_) (fun c_11 => ?_)
      · refine V_iconst (v := (0 : Int32)) X (by decide) dX0_isUnder_32 ?_
        exact V_zret X hr rfl dX0_isUnder_33 (Or.inr (⟨rfl, rfl, (UND_n (Or.inr (by omega)) hab)⟩))
      · refine V_iload_n X 2 rfl dX0_isUnder_14 ?_
        refine V_iload_n X 1 rfl dX0_isUnder_15 ?_
        refine V_icmp_ne X rfl rfl 21 dX0_isUnder_16 (by decide) (fun c_16 => ?_) (fun c_16 => ?_)
        · have hr8 := abv_r hK i
          obtain ⟨k2, tu2⟩ : ∃ k2 : Nat, u2.toInt = ((k2 : Nat) : Int) := ⟨u2.toInt.toNat, by omega⟩
          · refine V_iload_n X 2 rfl dX0_isUnder_21 ?_
            refine V_callS (wr := []) (st := []) X (c_X0_nextAbove l D Y u2 k2 tu2 (by omega)) 1 gX0_isUnder_X0_nextAbove rfl (by decide +kernel) ⟨rfl, rfl⟩ ⟨Nat.le_of_ble_eq_true rfl, Nat.le_of_ble_eq_true rfl⟩ [] [] rfl rfl rfl rfl (by decide) rfl rfl (Nat.le_of_ble_eq_true rfl) ⟨Nat.le_of_ble_eq_true rfl, Nat.le_of_ble_eq_true rfl⟩ dX0_isUnder_22 (fun v_22 w_22 h_22 => ?_)
            obtain ⟨rfl, rfl⟩ := h_22
            refine V_to (pc' := 25) (ls' := [(0, .int x), (1, .int y), (2, .int u2), (3, .int i3)]) (st' := [.int (tAbove k2)]) (ws' := []) ?_ rfl rfl rfl rfl
            refine V_istore_n (ls' := [(2, .int (tAbove k2)), (0, .int x), (1, .int y), (3, .int i3)]) X (by decide) rfl dX0_isUnder_25 ?_
            refine V_iincZ X (fun vv_ => [(3, .int vv_), (2, .int (tAbove k2)), (0, .int x), (1, .int y)]) ti3 (by omega) (by omega) (by decide) 3 rfl (by decide) (fun _ => rfl) dX0_isUnder_26 (fun x_2 ex_2 tx_2 => ?_)
            have tx_2 : x_2.toInt = (((i + 1) : Nat) : Int) := by omega
            refine V_goto X 4 (by decide) dX0_isUnder_29 ?_
            refine V_ls (ls' := [(0, .int x), (1, .int y), (2, .int (tAbove k2)), (3, .int x_2)]) [2, 3, 1, 0] rfl ?_
            exact V_to (ih_4 x_2 (i + 1) (tAbove k2) ⟨(by omega), (by omega), (abv_s (by rw [hu2]; exact tu2)), (lt_snoc hab ⟨by omega, by omega⟩)⟩ (by omega)) rfl rfl rfl rfl
        · refine V_iconst (v := (1 : Int32)) X (by decide) dX0_isUnder_19 ?_
          exact V_zret X hr rfl dX0_isUnder_20 (Or.inl ⟨rfl, rfl, (UND_y (by omega) (hu2.trans (by omega)) hab hy0)⟩)
  · exact ⟨(by have h9 : (0 : Int32).toInt = 0 := (show (0 : Int32).toInt = 0 from by decide); omega), (by omega), (by show ((K : Nat) : Int) = x.toInt; omega), (fun j hj => absurd hj (Nat.not_lt_zero j))⟩

theorem in_X10_body_X10 : ∀ w ∈ wsX100, w ∈ wsX10_body := fun w h => List.mem_cons_of_mem _ (List.mem_append_left _ (List.mem_append_right _ h))
set_option maxHeartbeats 4000000 in
set_option maxRecDepth 100000 in
theorem c_X10_body (l : Launch) (D : va_G) (Y : Nat → ClassId) (x : Nat) (sgs : Nat) (ch : Nat) (g : Nat) (tp : Nat) (d : Nat) (di : Nat) (cg : Nat) (at_ : Nat) (shs : Nat) (sl_ : Nat) (fo : Int32) (ik : Int32) (ka : Nat) (ta : Nat) (asz : Int32) (arn : Int32) (aac : Int32) (nb_ : Nat) (i : Int32) (fk : Nat → Int32) (tasz : asz.toInt = ((nb_ : Nat) : Int)) (hnb : nb_ ≤ 50) : Mg l yX10_body wsX10_body ({ frames := 2, cells := 0, slots := 0, locals := 43 }) D Y [(x, .inr (9, [.ref sgs, .ref ch, .ref g, .ref tp, .ref d, .ref di, .ref cg, .ref at_, .ref shs, .ref sl_, .int fo, .int ik])), (at_, .inr (0, [.ref ka, .ref ta, .int asz, .int arn, .int aac])), (ka, .inl (Y 0, 50, .inl fk))] [.ref x, .int i] 0 0 (fun vv__ ww__ => (vv__ = some (.int (-1 : Int32)) ∧ ww__ = [(x, .inr (9, [.ref sgs, .ref ch, .ref g, .ref tp, .ref d, .ref di, .ref cg, .ref at_, .ref shs, .ref sl_, .int fo, .int ik])), (at_, .inr (0, [.ref ka, .ref ta, .int asz, .int arn, .int aac])), (ka, .inl (Y 0, 50, .inl fk))] ∧ (¬ (0 ≤ i.toInt ∧ i.toInt < 8))) ∨ (vv__ = some (.int (-3 : Int32)) ∧ ww__ = [(x, .inr (9, [.ref sgs, .ref ch, .ref g, .ref tp, .ref d, .ref di, .ref cg, .ref at_, .ref shs, .ref sl_, .int fo, .int ik])), (at_, .inr (0, [.ref ka, .ref ta, .int asz, .int arn, .int aac])), (ka, .inl (Y 0, 50, .inl fk))] ∧ (0 ≤ i.toInt ∧ i.toInt < 8) ∧ (nb_ = 50)) ∨ (∃ (r : Int32), ∃ (sz2 : Int32), vv__ = some (.int r) ∧ ww__ = [(x, .inr (9, [.ref sgs, .ref ch, .ref g, .ref tp, .ref d, .ref di, .ref cg, .ref at_, .ref shs, .ref sl_, .int fo, .int ik])), (at_, .inr (0, [.ref ka, .ref ta, .int sz2, .int arn, .int aac])), (ka, .inl (Y 0, 50, .inl (upd fk nb_ i)))] ∧ (0 ≤ i.toInt ∧ i.toInt < 8) ∧ (nb_ < 50) ∧ (r.toInt = ((nb_ : Nat) : Int)) ∧ (sz2.toInt = ((nb_ + 1 : Nat) : Int)))) := by
  refine Mg_of (cc := cX10_body) (maxL := 2) (ret := (some .int)) (ls0 := [(0, .ref x), (1, .int i)]) RX10 (by decide) rfl rfl rfl (Nat.le_of_ble_eq_true rfl) (fun p__ e__ s__ m__ b__ t__ c__ X hr hn => ?_)
  refine V_iload_n X 1 rfl dX10_body_0 ?_
  refine V_callS (wr := [(x, .inr (9, [.ref sgs, .ref ch, .ref g, .ref tp, .ref d, .ref di, .ref cg, .ref at_, .ref shs, .ref sl_, .int fo, .int ik])), (at_, .inr (0, [.ref ka, .ref ta, .int asz, .int arn, .int aac])), (ka, .inl (Y 0, 50, .inl fk))]) (st := []) X (c_X0_isKind l D Y i) 1 gX10_body_X0_isKind rfl (by decide +kernel) ⟨rfl, rfl⟩ ⟨Nat.le_of_ble_eq_true rfl, Nat.le_of_ble_eq_true rfl⟩ [] [0, 1, 2] rfl rfl rfl rfl (by decide) rfl rfl (Nat.le_of_ble_eq_true rfl) ⟨Nat.le_of_ble_eq_true rfl, Nat.le_of_ble_eq_true rfl⟩ dX10_body_1 (fun v_1 w_1 h_1 => ?_)
  rcases h_1 with ⟨rfl, rfl, hhy_2⟩ | ⟨rfl, rfl, hhn_3⟩
  · refine V_to (pc' := 4) (ls' := [(0, .ref x), (1, .int i)]) (st' := [.int (1 : Int32)]) (ws' := [(x, .inr (9, [.ref sgs, .ref ch, .ref g, .ref tp, .ref d, .ref di, .ref cg, .ref at_, .ref shs, .ref sl_, .int fo, .int ik])), (at_, .inr (0, [.ref ka, .ref ta, .int asz, .int arn, .int aac])), (ka, .inl (Y 0, 50, .inl fk))]) ?_ rfl rfl rfl rfl
    refine V_if_ne X (show (1 : Int32).toInt = 1 from by decide) 9 dX10_body_4 (by decide) (fun _ => ?_) (fun c_4 => absurd c_4 (by decide))
    refine V_aload_n X 0 rfl dX10_body_9 ?_
    refine V_get (C := RX10) (T := TX10) (N := 12) (ci := 9) (v := .ref at_) X in_X10_body_X10 0 rfl rfl 7 (by decide) (List.mem_of_getElem? (i := 1) rfl) rfl rfl dX10_body_10 ?_
    refine V_callV (C := RX0) (wr := [(x, .inr (9, [.ref sgs, .ref ch, .ref g, .ref tp, .ref d, .ref di, .ref cg, .ref at_, .ref shs, .ref sl_, .int fo, .int ik])), (ka, .inl (Y 0, 50, .inl fk))]) (st := []) X (c_X0_isFull l D Y at_ ka ta asz arn aac) 0 gX10_body_X0_isFull rfl (by decide +kernel) ⟨rfl, rfl⟩ ⟨Nat.le_of_ble_eq_true rfl, Nat.le_of_ble_eq_true rfl⟩ [1] [0, 2] rfl rfl rfl rfl (by decide) (ci := 0) rfl rfl 0 rfl rfl rfl (Nat.le_of_ble_eq_true rfl) ⟨Nat.le_of_ble_eq_true rfl, Nat.le_of_ble_eq_true rfl⟩ dX10_body_13 (fun v_13 w_13 h_13 => ?_)
    rcases h_13 with ⟨rfl, rfl, hhy_5⟩ | ⟨rfl, rfl, hhn_6⟩
    · refine V_to (pc' := 16) (ls' := [(0, .ref x), (1, .int i)]) (st' := [.int (1 : Int32)]) (ws' := [(x, .inr (9, [.ref sgs, .ref ch, .ref g, .ref tp, .ref d, .ref di, .ref cg, .ref at_, .ref shs, .ref sl_, .int fo, .int ik])), (ka, .inl (Y 0, 50, .inl fk)), (at_, .inr (0, [.ref ka, .ref ta, .int asz, .int arn, .int aac]))]) ?_ rfl rfl rfl rfl
      refine V_if_eq X (show (1 : Int32).toInt = 1 from by decide) 24 dX10_body_16 (by decide) (fun c_16 => absurd c_16 (by decide)) (fun _ => ?_)
      refine V_bipush (v := (-3 : Int32)) X (by decide) dX10_body_19 ?_
      refine V_goto X 32 (by decide) dX10_body_21 ?_
      refine V_ws (ws' := [(x, .inr (9, [.ref sgs, .ref ch, .ref g, .ref tp, .ref d, .ref di, .ref cg, .ref at_, .ref shs, .ref sl_, .int fo, .int ik])), (at_, .inr (0, [.ref ka, .ref ta, .int asz, .int arn, .int aac])), (ka, .inl (Y 0, 50, .inl fk))]) [0, 2, 1] rfl rfl rfl ?_
      exact V_iret X hr dX10_body_32 (Or.inr (Or.inl ⟨rfl, rfl, hhy_2, (by omega)⟩))
    · refine V_to (pc' := 16) (ls' := [(0, .ref x), (1, .int i)]) (st' := [.int (0 : Int32)]) (ws' := [(x, .inr (9, [.ref sgs, .ref ch, .ref g, .ref tp, .ref d, .ref di, .ref cg, .ref at_, .ref shs, .ref sl_, .int fo, .int ik])), (ka, .inl (Y 0, 50, .inl fk)), (at_, .inr (0, [.ref ka, .ref ta, .int asz, .int arn, .int aac]))]) ?_ rfl rfl rfl rfl
      refine V_if_eq X (show (0 : Int32).toInt = 0 from by decide) 24 dX10_body_16 (by decide) (fun _ => ?_) (fun c_16 => absurd c_16 (by decide))
      refine V_aload_n X 0 rfl dX10_body_24 ?_
      refine V_get (C := RX10) (T := TX10) (N := 12) (ci := 9) (v := .ref at_) X in_X10_body_X10 0 rfl rfl 7 (by decide) (List.mem_of_getElem? (i := 1) rfl) rfl rfl dX10_body_25 ?_
      refine V_iload_n X 1 rfl dX10_body_28 ?_
      refine V_callV (C := RX0) (wr := [(x, .inr (9, [.ref sgs, .ref ch, .ref g, .ref tp, .ref d, .ref di, .ref cg, .ref at_, .ref shs, .ref sl_, .int fo, .int ik]))]) (st := []) X (c_X0_addBody l D Y at_ ka ta asz arn aac nb_ i fk tasz hnb (by omega)) 1 gX10_body_X0_addBody rfl (by decide +kernel) ⟨rfl, rfl⟩ ⟨Nat.le_of_ble_eq_true rfl, Nat.le_of_ble_eq_true rfl⟩ [2, 1] [0] rfl rfl rfl rfl (by decide) (ci := 0) rfl rfl 0 rfl rfl rfl (Nat.le_of_ble_eq_true rfl) ⟨Nat.le_of_ble_eq_true rfl, Nat.le_of_ble_eq_true rfl⟩ dX10_body_29 (fun v_29 w_29 h_29 => ?_)
      obtain ⟨r_8, sz2_9, rfl, rfl, htr_10, htsz2_11⟩ := h_29
      refine V_to (pc' := 32) (ls' := [(0, .ref x), (1, .int i)]) (st' := [.int r_8]) (ws' := [(x, .inr (9, [.ref sgs, .ref ch, .ref g, .ref tp, .ref d, .ref di, .ref cg, .ref at_, .ref shs, .ref sl_, .int fo, .int ik])), (at_, .inr (0, [.ref ka, .ref ta, .int sz2_9, .int arn, .int aac])), (ka, .inl (Y 0, 50, .inl (upd fk nb_ i)))]) ?_ rfl rfl rfl rfl
      exact V_iret X hr dX10_body_32 (Or.inr (Or.inr (⟨r_8, sz2_9, rfl, rfl, hhy_2, (by omega), htr_10, htsz2_11⟩)))
  · refine V_to (pc' := 4) (ls' := [(0, .ref x), (1, .int i)]) (st' := [.int (0 : Int32)]) (ws' := [(x, .inr (9, [.ref sgs, .ref ch, .ref g, .ref tp, .ref d, .ref di, .ref cg, .ref at_, .ref shs, .ref sl_, .int fo, .int ik])), (at_, .inr (0, [.ref ka, .ref ta, .int asz, .int arn, .int aac])), (ka, .inl (Y 0, 50, .inl fk))]) ?_ rfl rfl rfl rfl
    refine V_if_ne X (show (0 : Int32).toInt = 0 from by decide) 9 dX10_body_4 (by decide) (fun c_4 => absurd c_4 (by decide)) (fun _ => ?_)
    refine V_iconst (v := (-1 : Int32)) X (by decide) dX10_body_7 ?_
    exact V_iret X hr dX10_body_8 (Or.inl ⟨rfl, rfl, hhn_3⟩)

theorem in_X10_trace_X10 : ∀ w ∈ wsX100, w ∈ wsX10_trace := fun w h => List.mem_cons_of_mem _ (List.mem_append_left _ (List.mem_append_right _ h))
set_option maxHeartbeats 4000000 in
set_option maxRecDepth 100000 in
theorem c_X10_trace (l : Launch) (D : va_G) (Y : Nat → ClassId) (x : Nat) (sgs : Nat) (ch : Nat) (g : Nat) (tp : Nat) (d : Nat) (di : Nat) (cg : Nat) (at_ : Nat) (shs : Nat) (sl_ : Nat) (fo : Int32) (ik : Int32) (ka : Nat) (ta : Nat) (asz : Int32) (arn : Int32) (aac : Int32) (i : Int32) (fta : Nat → Int32) : Mg l yX10_trace wsX10_trace ({ frames := 2, cells := 0, slots := 0, locals := 85 }) D Y [(x, .inr (9, [.ref sgs, .ref ch, .ref g, .ref tp, .ref d, .ref di, .ref cg, .ref at_, .ref shs, .ref sl_, .int fo, .int ik])), (at_, .inr (0, [.ref ka, .ref ta, .int asz, .int arn, .int aac])), (ta, .inl (Y 0, 24, .inl fta))] [.ref x, .int i] 0 0 (fun vv__ ww__ => (vv__ = some (.int (-1 : Int32)) ∧ ww__ = [(x, .inr (9, [.ref sgs, .ref ch, .ref g, .ref tp, .ref d, .ref di, .ref cg, .ref at_, .ref shs, .ref sl_, .int fo, .int ik])), (at_, .inr (0, [.ref ka, .ref ta, .int asz, .int arn, .int aac])), (ta, .inl (Y 0, 24, .inl fta))] ∧ (¬ (0 ≤ i.toInt ∧ i.toInt < arn.toInt ∧ i.toInt < 24))) ∨ (∃ (r : Int32), ∃ (k : Nat), vv__ = some (.int r) ∧ ww__ = [(x, .inr (9, [.ref sgs, .ref ch, .ref g, .ref tp, .ref d, .ref di, .ref cg, .ref at_, .ref shs, .ref sl_, .int fo, .int ik])), (at_, .inr (0, [.ref ka, .ref ta, .int asz, .int arn, .int aac])), (ta, .inl (Y 0, 24, .inl fta))] ∧ (i.toInt = ((k : Nat) : Int)) ∧ (i.toInt < arn.toInt ∧ k < 24) ∧ (r = fta k))) := by
  refine Mg_of (cc := cX10_trace) (maxL := 2) (ret := (some .int)) (ls0 := [(0, .ref x), (1, .int i)]) RX10 (by decide) rfl rfl rfl (Nat.le_of_ble_eq_true rfl) (fun p__ e__ s__ m__ b__ t__ c__ X hr hn => ?_)
  refine V_aload_n X 0 rfl dX10_trace_0 ?_
  refine V_get (C := RX10) (T := TX10) (N := 12) (ci := 9) (v := .ref at_) X in_X10_trace_X10 0 rfl rfl 7 (by decide) (List.mem_of_getElem? (i := 1) rfl) rfl rfl dX10_trace_1 ?_
  refine V_iload_n X 1 rfl dX10_trace_4 ?_
  refine V_callV (C := RX0) (wr := [(x, .inr (9, [.ref sgs, .ref ch, .ref g, .ref tp, .ref d, .ref di, .ref cg, .ref at_, .ref shs, .ref sl_, .int fo, .int ik]))]) (st := []) X (c_X0_traced l D Y at_ ka ta asz arn aac i fta) 1 gX10_trace_X0_traced rfl (by decide +kernel) ⟨rfl, rfl⟩ ⟨Nat.le_of_ble_eq_true rfl, Nat.le_of_ble_eq_true rfl⟩ [1, 2] [0] rfl rfl rfl rfl (by decide) (ci := 0) rfl rfl 0 rfl rfl rfl (Nat.le_of_ble_eq_true rfl) ⟨Nat.le_of_ble_eq_true rfl, Nat.le_of_ble_eq_true rfl⟩ dX10_trace_5 (fun v_5 w_5 h_5 => ?_)
  rcases h_5 with ⟨rfl, rfl, hhb_2⟩ | ⟨r_3, kq, rfl, rfl, hti_5, hhk_6, hhr__7⟩
  · refine V_to (pc' := 8) (ls' := [(0, .ref x), (1, .int i)]) (st' := [.int (-1 : Int32)]) (ws' := [(x, .inr (9, [.ref sgs, .ref ch, .ref g, .ref tp, .ref d, .ref di, .ref cg, .ref at_, .ref shs, .ref sl_, .int fo, .int ik])), (at_, .inr (0, [.ref ka, .ref ta, .int asz, .int arn, .int aac])), (ta, .inl (Y 0, 24, .inl fta))]) ?_ rfl rfl rfl rfl
    exact V_iret X hr dX10_trace_8 (Or.inl ⟨rfl, rfl, hhb_2⟩)
  · refine V_to (pc' := 8) (ls' := [(0, .ref x), (1, .int i)]) (st' := [.int r_3]) (ws' := [(x, .inr (9, [.ref sgs, .ref ch, .ref g, .ref tp, .ref d, .ref di, .ref cg, .ref at_, .ref shs, .ref sl_, .int fo, .int ik])), (at_, .inr (0, [.ref ka, .ref ta, .int asz, .int arn, .int aac])), (ta, .inl (Y 0, 24, .inl fta))]) ?_ rfl rfl rfl rfl
    exact V_iret X hr dX10_trace_8 (Or.inr (⟨r_3, kq, rfl, rfl, hti_5, hhk_6, hhr__7⟩))

theorem in_X10_keep_X10 : ∀ w ∈ wsX100, w ∈ wsX10_keep := fun w h => List.mem_cons_of_mem _ (List.mem_append_left _ (List.mem_append_left _ (List.mem_append_right _ h)))
set_option maxHeartbeats 4000000 in
set_option maxRecDepth 100000 in
theorem c_X10_keep (l : Launch) (D : va_G) (Y : Nat → ClassId) (x : Nat) (sgs : Nat) (ch : Nat) (g : Nat) (tp : Nat) (d : Nat) (di : Nat) (cg : Nat) (at_ : Nat) (shs : Nat) (sl_ : Nat) (fo : Int32) (ik : Int32) (s1 : Nat) (c : Nat) (hd : Int32) (bd : Int32) (so : Int32) (le : Int32) (m_ : Nat) (hsq : Nat → Option Nat) (h0 : Nat) (ka : Nat) (ta : Nat) (asz : Int32) (arn : Int32) (aac : Int32) (j : Int32) (b : Int32) (hh0 : h0 < 6) (hhq : hsq h0 = some s1) (hho : 0 ≤ j.toInt → j.toInt < 6 → j.toInt = ((h0 : Nat) : Int)) (tle : le.toInt = ((m_ : Nat) : Int)) : Mg l yX10_keep wsX10_keep ({ frames := 2, cells := 0, slots := 0, locals := 42 }) D Y [(x, .inr (9, [.ref sgs, .ref ch, .ref g, .ref tp, .ref d, .ref di, .ref cg, .ref at_, .ref shs, .ref sl_, .int fo, .int ik])), (shs, .inl (Y 5, 6, .inr (.inr (.inr (.inr hsq))))), (s1, .inr (5, [.ref c, .int hd, .int bd, .int so, .int le])), (at_, .inr (0, [.ref ka, .ref ta, .int asz, .int arn, .int aac]))] [.ref x, .int j, .int b] 0 0 (fun vv__ ww__ => (vv__ = some (.int (-1 : Int32)) ∧ ww__ = [(x, .inr (9, [.ref sgs, .ref ch, .ref g, .ref tp, .ref d, .ref di, .ref cg, .ref at_, .ref shs, .ref sl_, .int fo, .int ik])), (shs, .inl (Y 5, 6, .inr (.inr (.inr (.inr hsq))))), (s1, .inr (5, [.ref c, .int hd, .int bd, .int so, .int le])), (at_, .inr (0, [.ref ka, .ref ta, .int asz, .int arn, .int aac]))] ∧ (¬ (0 ≤ j.toInt ∧ j.toInt < 6 ∧ (b.toInt = -1 ∨ (0 ≤ b.toInt ∧ b.toInt < asz.toInt))))) ∨ (vv__ = some (.int (1 : Int32)) ∧ ww__ = [(x, .inr (9, [.ref sgs, .ref ch, .ref g, .ref tp, .ref d, .ref di, .ref cg, .ref at_, .ref shs, .ref sl_, .int fo, .int ik])), (shs, .inl (Y 5, 6, .inr (.inr (.inr (.inr hsq))))), (s1, .inr (5, [.ref c, .int (0 : Int32), .int bd, .int so, .int le])), (at_, .inr (0, [.ref ka, .ref ta, .int asz, .int arn, .int aac]))] ∧ (j.toInt = ((h0 : Nat) : Int)) ∧ (b.toInt = -1)) ∨ (vv__ = some (.int (1 : Int32)) ∧ ww__ = [(x, .inr (9, [.ref sgs, .ref ch, .ref g, .ref tp, .ref d, .ref di, .ref cg, .ref at_, .ref shs, .ref sl_, .int fo, .int ik])), (shs, .inl (Y 5, 6, .inr (.inr (.inr (.inr hsq))))), (s1, .inr (5, [.ref c, .int (1 : Int32), .int b, .int so, .int le])), (at_, .inr (0, [.ref ka, .ref ta, .int asz, .int arn, .int aac]))] ∧ (j.toInt = ((h0 : Nat) : Int)) ∧ (0 ≤ b.toInt ∧ b.toInt < asz.toInt))) := by
  refine Mg_of (cc := cX10_keep) (maxL := 4) (ret := (some .int)) (ls0 := [(0, .ref x), (1, .int j), (2, .int b)]) RX10 (by decide) rfl rfl rfl (Nat.le_of_ble_eq_true rfl) (fun p__ e__ s__ m__ b__ t__ c__ X hr hn => ?_)
  refine V_aload_n X 0 rfl dX10_keep_0 ?_
  refine V_iload_n X 1 rfl dX10_keep_1 ?_
  refine V_callV (C := RX10) (wr := [(s1, .inr (5, [.ref c, .int hd, .int bd, .int so, .int le])), (at_, .inr (0, [.ref ka, .ref ta, .int asz, .int arn, .int aac]))]) (st := []) X (c_X10_shelfAt l D Y x sgs ch g tp d di cg at_ shs sl_ fo ik s1 j hsq h0 hh0 hhq hho) 1 gX10_keep_X10_shelfAt rfl (by decide +kernel) ⟨rfl, rfl⟩ ⟨Nat.le_of_ble_eq_true rfl, Nat.le_of_ble_eq_true rfl⟩ [0, 1] [2, 3] rfl rfl rfl rfl (by decide) (ci := 9) rfl rfl 0 rfl rfl rfl (Nat.le_of_ble_eq_true rfl) ⟨Nat.le_of_ble_eq_true rfl, Nat.le_of_ble_eq_true rfl⟩ dX10_keep_2 (fun v_2 w_2 h_2 => ?_)
  rcases h_2 with ⟨rfl, rfl, hh1_2⟩ | ⟨rfl, rfl, hh0n_3⟩
  · refine V_to (pc' := 5) (ls' := [(0, .ref x), (1, .int j), (2, .int b)]) (st' := [.ref s1]) (ws' := [(s1, .inr (5, [.ref c, .int hd, .int bd, .int so, .int le])), (at_, .inr (0, [.ref ka, .ref ta, .int asz, .int arn, .int aac])), (x, .inr (9, [.ref sgs, .ref ch, .ref g, .ref tp, .ref d, .ref di, .ref cg, .ref at_, .ref shs, .ref sl_, .int fo, .int ik])), (shs, .inl (Y 5, 6, .inr (.inr (.inr (.inr hsq)))))]) ?_ rfl rfl rfl rfl
    refine V_astore_n (ls' := [(3, .ref s1), (0, .ref x), (1, .int j), (2, .int b)]) X (by decide) rfl dX10_keep_5 ?_
    refine V_aload_n X 0 rfl dX10_keep_6 ?_
    refine V_ifnull X dX10_keep_7 ?_
    refine V_iload_n X 3 rfl dX10_keep_10 ?_
    refine V_iconst (v := (-1 : Int32)) X (by decide) dX10_keep_11 ?_
    refine V_icmp_eq X rfl (show (-1 : Int32).toInt = (-1) from by decide) 28 dX10_keep_12 (by decide) (fun c_12 => ?_) (fun c_12 => ?_)
    · refine V_iload_n X 3 rfl dX10_keep_28 ?_
      refine V_iconst (v := (-1 : Int32)) X (by decide) dX10_keep_29 ?_
      refine V_icmp_ne X rfl (show (-1 : Int32).toInt = (-1) from by decide) 40 dX10_keep_30 (by decide) (fun c_30 => False.elim (by omega)) (fun c_30 => ?_)
      refine V_aload_n X 0 rfl dX10_keep_33 ?_
      refine V_callV (C := RX6) (wr := [(at_, .inr (0, [.ref ka, .ref ta, .int asz, .int arn, .int aac])), (x, .inr (9, [.ref sgs, .ref ch, .ref g, .ref tp, .ref d, .ref di, .ref cg, .ref at_, .ref shs, .ref sl_, .int fo, .int ik])), (shs, .inl (Y 5, 6, .inr (.inr (.inr (.inr hsq)))))]) (st := []) X (c_X6_holdNothing l D Y s1 c hd bd so le) 0 gX10_keep_X6_holdNothing rfl (by decide +kernel) ⟨rfl, rfl⟩ ⟨Nat.le_of_ble_eq_true rfl, Nat.le_of_ble_eq_true rfl⟩ [0] [1, 2, 3] rfl rfl rfl rfl (by decide) (ci := 5) rfl rfl 0 rfl rfl rfl (Nat.le_of_ble_eq_true rfl) ⟨Nat.le_of_ble_eq_true rfl, Nat.le_of_ble_eq_true rfl⟩ dX10_keep_34 (fun v_34 w_34 h_34 => ?_)
      obtain ⟨rfl, rfl⟩ := h_34
      refine V_to (pc' := 37) (ls' := [(3, .ref s1), (0, .ref x), (1, .int j), (2, .int b)]) (st' := []) (ws' := [(at_, .inr (0, [.ref ka, .ref ta, .int asz, .int arn, .int aac])), (x, .inr (9, [.ref sgs, .ref ch, .ref g, .ref tp, .ref d, .ref di, .ref cg, .ref at_, .ref shs, .ref sl_, .int fo, .int ik])), (shs, .inl (Y 5, 6, .inr (.inr (.inr (.inr hsq))))), (s1, .inr (5, [.ref c, .int (0 : Int32), .int bd, .int so, .int le]))]) ?_ rfl rfl rfl rfl
      refine V_goto X 45 (by decide) dX10_keep_37 ?_
      refine V_iconst (v := (1 : Int32)) X (by decide) dX10_keep_45 ?_
      refine V_ws (ws' := [(x, .inr (9, [.ref sgs, .ref ch, .ref g, .ref tp, .ref d, .ref di, .ref cg, .ref at_, .ref shs, .ref sl_, .int fo, .int ik])), (shs, .inl (Y 5, 6, .inr (.inr (.inr (.inr hsq))))), (s1, .inr (5, [.ref c, .int (0 : Int32), .int bd, .int so, .int le])), (at_, .inr (0, [.ref ka, .ref ta, .int asz, .int arn, .int aac]))]) [1, 2, 3, 0] rfl rfl rfl ?_
      exact V_iret X hr dX10_keep_46 (Or.inr (Or.inl ⟨rfl, rfl, hh1_2, (by omega)⟩))
    · refine V_aload_n X 1 rfl dX10_keep_15 ?_
      refine V_get (C := RX10) (T := TX10) (N := 12) (ci := 9) (v := .ref at_) X in_X10_keep_X10 2 rfl rfl 7 (by decide) (List.mem_of_getElem? (i := 1) rfl) rfl rfl dX10_keep_16 ?_
      refine V_iload_n X 3 rfl dX10_keep_19 ?_
      refine V_callV (C := RX0) (wr := [(s1, .inr (5, [.ref c, .int hd, .int bd, .int so, .int le])), (x, .inr (9, [.ref sgs, .ref ch, .ref g, .ref tp, .ref d, .ref di, .ref cg, .ref at_, .ref shs, .ref sl_, .int fo, .int ik])), (shs, .inl (Y 5, 6, .inr (.inr (.inr (.inr hsq)))))]) (st := []) X (c_X0_isBody l D Y at_ ka ta asz arn aac b) 1 gX10_keep_X0_isBody rfl (by decide +kernel) ⟨rfl, rfl⟩ ⟨Nat.le_of_ble_eq_true rfl, Nat.le_of_ble_eq_true rfl⟩ [1] [0, 2, 3] rfl rfl rfl rfl (by decide) (ci := 0) rfl rfl 0 rfl rfl rfl (Nat.le_of_ble_eq_true rfl) ⟨Nat.le_of_ble_eq_true rfl, Nat.le_of_ble_eq_true rfl⟩ dX10_keep_20 (fun v_20 w_20 h_20 => ?_)
      rcases h_20 with ⟨rfl, rfl, hhy_6⟩ | ⟨rfl, rfl, hhn_7⟩
      · refine V_to (pc' := 23) (ls' := [(3, .ref s1), (0, .ref x), (1, .int j), (2, .int b)]) (st' := [.int (1 : Int32)]) (ws' := [(s1, .inr (5, [.ref c, .int hd, .int bd, .int so, .int le])), (x, .inr (9, [.ref sgs, .ref ch, .ref g, .ref tp, .ref d, .ref di, .ref cg, .ref at_, .ref shs, .ref sl_, .int fo, .int ik])), (shs, .inl (Y 5, 6, .inr (.inr (.inr (.inr hsq))))), (at_, .inr (0, [.ref ka, .ref ta, .int asz, .int arn, .int aac]))]) ?_ rfl rfl rfl rfl
        refine V_if_ne X (show (1 : Int32).toInt = 1 from by decide) 28 dX10_keep_23 (by decide) (fun _ => ?_) (fun c_23 => absurd c_23 (by decide))
        refine V_iload_n X 3 rfl dX10_keep_28 ?_
        refine V_iconst (v := (-1 : Int32)) X (by decide) dX10_keep_29 ?_
        refine V_icmp_ne X rfl (show (-1 : Int32).toInt = (-1) from by decide) 40 dX10_keep_30 (by decide) (fun c_30 => ?_) (fun c_30 => False.elim (by omega))
        refine V_aload_n X 0 rfl dX10_keep_40 ?_
        refine V_iload_n X 3 rfl dX10_keep_41 ?_
        refine V_callV (C := RX6) (wr := [(x, .inr (9, [.ref sgs, .ref ch, .ref g, .ref tp, .ref d, .ref di, .ref cg, .ref at_, .ref shs, .ref sl_, .int fo, .int ik])), (shs, .inl (Y 5, 6, .inr (.inr (.inr (.inr hsq))))), (at_, .inr (0, [.ref ka, .ref ta, .int asz, .int arn, .int aac]))]) (st := []) X (c_X6_holdBody l D Y s1 c hd bd so le b) 1 gX10_keep_X6_holdBody rfl (by decide +kernel) ⟨rfl, rfl⟩ ⟨Nat.le_of_ble_eq_true rfl, Nat.le_of_ble_eq_true rfl⟩ [0] [1, 2, 3] rfl rfl rfl rfl (by decide) (ci := 5) rfl rfl 0 rfl rfl rfl (Nat.le_of_ble_eq_true rfl) ⟨Nat.le_of_ble_eq_true rfl, Nat.le_of_ble_eq_true rfl⟩ dX10_keep_42 (fun v_42 w_42 h_42 => ?_)
        obtain ⟨rfl, rfl⟩ := h_42
        refine V_to (pc' := 45) (ls' := [(3, .ref s1), (0, .ref x), (1, .int j), (2, .int b)]) (st' := []) (ws' := [(x, .inr (9, [.ref sgs, .ref ch, .ref g, .ref tp, .ref d, .ref di, .ref cg, .ref at_, .ref shs, .ref sl_, .int fo, .int ik])), (shs, .inl (Y 5, 6, .inr (.inr (.inr (.inr hsq))))), (at_, .inr (0, [.ref ka, .ref ta, .int asz, .int arn, .int aac])), (s1, .inr (5, [.ref c, .int (1 : Int32), .int b, .int so, .int le]))]) ?_ rfl rfl rfl rfl
        refine V_iconst (v := (1 : Int32)) X (by decide) dX10_keep_45 ?_
        refine V_ws (ws' := [(x, .inr (9, [.ref sgs, .ref ch, .ref g, .ref tp, .ref d, .ref di, .ref cg, .ref at_, .ref shs, .ref sl_, .int fo, .int ik])), (shs, .inl (Y 5, 6, .inr (.inr (.inr (.inr hsq))))), (s1, .inr (5, [.ref c, .int (1 : Int32), .int b, .int so, .int le])), (at_, .inr (0, [.ref ka, .ref ta, .int asz, .int arn, .int aac]))]) [0, 1, 3, 2] rfl rfl rfl ?_
        exact V_iret X hr dX10_keep_46 (Or.inr (Or.inr (⟨rfl, rfl, hh1_2, hhy_6⟩)))
      · refine V_to (pc' := 23) (ls' := [(3, .ref s1), (0, .ref x), (1, .int j), (2, .int b)]) (st' := [.int (0 : Int32)]) (ws' := [(s1, .inr (5, [.ref c, .int hd, .int bd, .int so, .int le])), (x, .inr (9, [.ref sgs, .ref ch, .ref g, .ref tp, .ref d, .ref di, .ref cg, .ref at_, .ref shs, .ref sl_, .int fo, .int ik])), (shs, .inl (Y 5, 6, .inr (.inr (.inr (.inr hsq))))), (at_, .inr (0, [.ref ka, .ref ta, .int asz, .int arn, .int aac]))]) ?_ rfl rfl rfl rfl
        refine V_if_ne X (show (0 : Int32).toInt = 0 from by decide) 28 dX10_keep_23 (by decide) (fun c_23 => absurd c_23 (by decide)) (fun _ => ?_)
        refine V_iconst (v := (-1 : Int32)) X (by decide) dX10_keep_26 ?_
        refine V_ws (ws' := [(x, .inr (9, [.ref sgs, .ref ch, .ref g, .ref tp, .ref d, .ref di, .ref cg, .ref at_, .ref shs, .ref sl_, .int fo, .int ik])), (shs, .inl (Y 5, 6, .inr (.inr (.inr (.inr hsq))))), (s1, .inr (5, [.ref c, .int hd, .int bd, .int so, .int le])), (at_, .inr (0, [.ref ka, .ref ta, .int asz, .int arn, .int aac]))]) [1, 2, 0, 3] rfl rfl rfl ?_
        exact V_iret X hr dX10_keep_27 (Or.inl ⟨rfl, rfl, (by omega)⟩)
  · refine V_to (pc' := 5) (ls' := [(0, .ref x), (1, .int j), (2, .int b)]) (st' := [.null]) (ws' := [(s1, .inr (5, [.ref c, .int hd, .int bd, .int so, .int le])), (at_, .inr (0, [.ref ka, .ref ta, .int asz, .int arn, .int aac])), (x, .inr (9, [.ref sgs, .ref ch, .ref g, .ref tp, .ref d, .ref di, .ref cg, .ref at_, .ref shs, .ref sl_, .int fo, .int ik])), (shs, .inl (Y 5, 6, .inr (.inr (.inr (.inr hsq)))))]) ?_ rfl rfl rfl rfl
    refine V_astore_nN (ls' := [(3, .null), (0, .ref x), (1, .int j), (2, .int b)]) X (by decide) rfl dX10_keep_5 ?_
    refine V_aload_nN X 0 rfl dX10_keep_6 ?_
    refine V_ifnullN X 26 dX10_keep_7 (by decide) ?_
    refine V_iconst (v := (-1 : Int32)) X (by decide) dX10_keep_26 ?_
    refine V_ws (ws' := [(x, .inr (9, [.ref sgs, .ref ch, .ref g, .ref tp, .ref d, .ref di, .ref cg, .ref at_, .ref shs, .ref sl_, .int fo, .int ik])), (shs, .inl (Y 5, 6, .inr (.inr (.inr (.inr hsq))))), (s1, .inr (5, [.ref c, .int hd, .int bd, .int so, .int le])), (at_, .inr (0, [.ref ka, .ref ta, .int asz, .int arn, .int aac]))]) [2, 3, 0, 1] rfl rfl rfl ?_
    exact V_iret X hr dX10_keep_27 (Or.inl ⟨rfl, rfl, (by omega)⟩)

theorem in_X10_taken_X10 : ∀ w ∈ wsX100, w ∈ wsX10_taken := fun w h => List.mem_cons_of_mem _ (List.mem_append_left _ (List.mem_append_left _ (List.mem_append_right _ h)))
set_option maxHeartbeats 4000000 in
set_option maxRecDepth 100000 in
theorem c_X10_taken (l : Launch) (D : va_G) (Y : Nat → ClassId) (x : Nat) (sgs : Nat) (ch : Nat) (g : Nat) (tp : Nat) (d : Nat) (di : Nat) (cg : Nat) (at_ : Nat) (shs : Nat) (sl_ : Nat) (fo : Int32) (ik : Int32) (s1 : Nat) (c : Nat) (hd : Int32) (bd : Int32) (so : Int32) (le : Int32) (m_ : Nat) (hsq : Nat → Option Nat) (h0 : Nat) (ka : Nat) (ta : Nat) (asz : Int32) (arn : Int32) (aac : Int32) (j : Int32) (i : Int32) (bn : Nat) (K : Nat) (fk : Nat → Int32) (hh0 : h0 < 6) (hhq : hsq h0 = some s1) (hho : 0 ≤ j.toInt → j.toInt < 6 → j.toInt = ((h0 : Nat) : Int)) (hbd : hd.toInt ≠ 0 → hd.toInt ≠ 2 → bd.toInt = ((bn : Nat) : Int)) (hbn50 : bn < 50) (hkn : hd.toInt ≠ 0 → hd.toInt ≠ 2 → (fk bn).toInt = ((K : Nat) : Int)) (hK8 : K < 8) (tle : le.toInt = ((m_ : Nat) : Int)) : Mg l yX10_taken wsX10_taken ({ frames := 3, cells := 0, slots := 0, locals := 64 }) D Y [(x, .inr (9, [.ref sgs, .ref ch, .ref g, .ref tp, .ref d, .ref di, .ref cg, .ref at_, .ref shs, .ref sl_, .int fo, .int ik])), (shs, .inl (Y 5, 6, .inr (.inr (.inr (.inr hsq))))), (s1, .inr (5, [.ref c, .int hd, .int bd, .int so, .int le])), (at_, .inr (0, [.ref ka, .ref ta, .int asz, .int arn, .int aac])), (ka, .inl (Y 0, 50, .inl fk))] [.ref x, .int j, .int i] 0 0 (fun vv__ ww__ => (vv__ = some (.int (-1 : Int32)) ∧ ww__ = [(x, .inr (9, [.ref sgs, .ref ch, .ref g, .ref tp, .ref d, .ref di, .ref cg, .ref at_, .ref shs, .ref sl_, .int fo, .int ik])), (shs, .inl (Y 5, 6, .inr (.inr (.inr (.inr hsq))))), (s1, .inr (5, [.ref c, .int hd, .int bd, .int so, .int le])), (at_, .inr (0, [.ref ka, .ref ta, .int asz, .int arn, .int aac])), (ka, .inl (Y 0, 50, .inl fk))] ∧ (¬ (0 ≤ j.toInt ∧ j.toInt < 6 ∧ 0 ≤ i.toInt ∧ i.toInt < 8))) ∨ (vv__ = some (.int (-11 : Int32)) ∧ ww__ = [(x, .inr (9, [.ref sgs, .ref ch, .ref g, .ref tp, .ref d, .ref di, .ref cg, .ref at_, .ref shs, .ref sl_, .int fo, .int ik])), (shs, .inl (Y 5, 6, .inr (.inr (.inr (.inr hsq))))), (s1, .inr (5, [.ref c, .int hd, .int bd, .int so, .int le])), (at_, .inr (0, [.ref ka, .ref ta, .int asz, .int arn, .int aac])), (ka, .inl (Y 0, 50, .inl fk))] ∧ (j.toInt = ((h0 : Nat) : Int)) ∧ (hd.toInt = 0)) ∨ (vv__ = some (.int (-12 : Int32)) ∧ ww__ = [(x, .inr (9, [.ref sgs, .ref ch, .ref g, .ref tp, .ref d, .ref di, .ref cg, .ref at_, .ref shs, .ref sl_, .int fo, .int ik])), (shs, .inl (Y 5, 6, .inr (.inr (.inr (.inr hsq))))), (s1, .inr (5, [.ref c, .int hd, .int bd, .int so, .int le])), (at_, .inr (0, [.ref ka, .ref ta, .int asz, .int arn, .int aac])), (ka, .inl (Y 0, 50, .inl fk))] ∧ (j.toInt = ((h0 : Nat) : Int)) ∧ (hd.toInt = 2)) ∨ (∃ (r : Int32), vv__ = some (.int r) ∧ ww__ = [(x, .inr (9, [.ref sgs, .ref ch, .ref g, .ref tp, .ref d, .ref di, .ref cg, .ref at_, .ref shs, .ref sl_, .int fo, .int ik])), (shs, .inl (Y 5, 6, .inr (.inr (.inr (.inr hsq))))), (s1, .inr (5, [.ref c, .int hd, .int bd, .int so, .int le])), (at_, .inr (0, [.ref ka, .ref ta, .int asz, .int arn, .int aac])), (ka, .inl (Y 0, 50, .inl fk))] ∧ (j.toInt = ((h0 : Nat) : Int)) ∧ (hd.toInt ≠ 0 ∧ hd.toInt ≠ 2) ∧ (UND K i.toInt) ∧ (r.toInt = ((K : Nat) : Int))) ∨ (vv__ = some (.int (-12 : Int32)) ∧ ww__ = [(x, .inr (9, [.ref sgs, .ref ch, .ref g, .ref tp, .ref d, .ref di, .ref cg, .ref at_, .ref shs, .ref sl_, .int fo, .int ik])), (shs, .inl (Y 5, 6, .inr (.inr (.inr (.inr hsq))))), (s1, .inr (5, [.ref c, .int hd, .int bd, .int so, .int le])), (at_, .inr (0, [.ref ka, .ref ta, .int asz, .int arn, .int aac])), (ka, .inl (Y 0, 50, .inl fk))] ∧ (j.toInt = ((h0 : Nat) : Int)) ∧ (hd.toInt ≠ 0 ∧ hd.toInt ≠ 2) ∧ (¬ UND K i.toInt))) := by
  refine Mg_of (cc := cX10_taken) (maxL := 5) (ret := (some .int)) (ls0 := [(0, .ref x), (1, .int j), (2, .int i)]) RX10 (by decide) rfl rfl rfl (Nat.le_of_ble_eq_true rfl) (fun p__ e__ s__ m__ b__ t__ c__ X hr hn => ?_)
  refine V_aload_n X 0 rfl dX10_taken_0 ?_
  refine V_iload_n X 1 rfl dX10_taken_1 ?_
  refine V_callV (C := RX10) (wr := [(s1, .inr (5, [.ref c, .int hd, .int bd, .int so, .int le])), (at_, .inr (0, [.ref ka, .ref ta, .int asz, .int arn, .int aac])), (ka, .inl (Y 0, 50, .inl fk))]) (st := []) X (c_X10_shelfAt l D Y x sgs ch g tp d di cg at_ shs sl_ fo ik s1 j hsq h0 hh0 hhq hho) 1 gX10_taken_X10_shelfAt rfl (by decide +kernel) ⟨rfl, rfl⟩ ⟨Nat.le_of_ble_eq_true rfl, Nat.le_of_ble_eq_true rfl⟩ [0, 1] [2, 3, 4] rfl rfl rfl rfl (by decide) (ci := 9) rfl rfl 0 rfl rfl rfl (Nat.le_of_ble_eq_true rfl) ⟨Nat.le_of_ble_eq_true rfl, Nat.le_of_ble_eq_true rfl⟩ dX10_taken_2 (fun v_2 w_2 h_2 => ?_)
  rcases h_2 with ⟨rfl, rfl, hh1_2⟩ | ⟨rfl, rfl, hh0n_3⟩
  · refine V_to (pc' := 5) (ls' := [(0, .ref x), (1, .int j), (2, .int i)]) (st' := [.ref s1]) (ws' := [(s1, .inr (5, [.ref c, .int hd, .int bd, .int so, .int le])), (at_, .inr (0, [.ref ka, .ref ta, .int asz, .int arn, .int aac])), (ka, .inl (Y 0, 50, .inl fk)), (x, .inr (9, [.ref sgs, .ref ch, .ref g, .ref tp, .ref d, .ref di, .ref cg, .ref at_, .ref shs, .ref sl_, .int fo, .int ik])), (shs, .inl (Y 5, 6, .inr (.inr (.inr (.inr hsq)))))]) ?_ rfl rfl rfl rfl
    refine V_astore_n (ls' := [(3, .ref s1), (0, .ref x), (1, .int j), (2, .int i)]) X (by decide) rfl dX10_taken_5 ?_
    refine V_aload_n X 0 rfl dX10_taken_6 ?_
    refine V_ifnull X dX10_taken_7 ?_
    refine V_iload_n X 3 rfl dX10_taken_10 ?_
    refine V_callS (wr := [(s1, .inr (5, [.ref c, .int hd, .int bd, .int so, .int le])), (at_, .inr (0, [.ref ka, .ref ta, .int asz, .int arn, .int aac])), (ka, .inl (Y 0, 50, .inl fk)), (x, .inr (9, [.ref sgs, .ref ch, .ref g, .ref tp, .ref d, .ref di, .ref cg, .ref at_, .ref shs, .ref sl_, .int fo, .int ik])), (shs, .inl (Y 5, 6, .inr (.inr (.inr (.inr hsq)))))]) (st := []) X (c_X0_isKind l D Y i) 1 gX10_taken_X0_isKind rfl (by decide +kernel) ⟨rfl, rfl⟩ ⟨Nat.le_of_ble_eq_true rfl, Nat.le_of_ble_eq_true rfl⟩ [] [0, 1, 2, 3, 4] rfl rfl rfl rfl (by decide) rfl rfl (Nat.le_of_ble_eq_true rfl) ⟨Nat.le_of_ble_eq_true rfl, Nat.le_of_ble_eq_true rfl⟩ dX10_taken_11 (fun v_11 w_11 h_11 => ?_)
    rcases h_11 with ⟨rfl, rfl, hhy_5⟩ | ⟨rfl, rfl, hhn_6⟩
    · refine V_to (pc' := 14) (ls' := [(3, .ref s1), (0, .ref x), (1, .int j), (2, .int i)]) (st' := [.int (1 : Int32)]) (ws' := [(s1, .inr (5, [.ref c, .int hd, .int bd, .int so, .int le])), (at_, .inr (0, [.ref ka, .ref ta, .int asz, .int arn, .int aac])), (ka, .inl (Y 0, 50, .inl fk)), (x, .inr (9, [.ref sgs, .ref ch, .ref g, .ref tp, .ref d, .ref di, .ref cg, .ref at_, .ref shs, .ref sl_, .int fo, .int ik])), (shs, .inl (Y 5, 6, .inr (.inr (.inr (.inr hsq)))))]) ?_ rfl rfl rfl rfl
      refine V_if_ne X (show (1 : Int32).toInt = 1 from by decide) 19 dX10_taken_14 (by decide) (fun _ => ?_) (fun c_14 => absurd c_14 (by decide))
      refine V_aload_n X 0 rfl dX10_taken_19 ?_
      refine V_callV (C := RX6) (wr := [(at_, .inr (0, [.ref ka, .ref ta, .int asz, .int arn, .int aac])), (ka, .inl (Y 0, 50, .inl fk)), (x, .inr (9, [.ref sgs, .ref ch, .ref g, .ref tp, .ref d, .ref di, .ref cg, .ref at_, .ref shs, .ref sl_, .int fo, .int ik])), (shs, .inl (Y 5, 6, .inr (.inr (.inr (.inr hsq)))))]) (st := []) X (c_X6_isEmpty l D Y s1 c hd bd so le) 0 gX10_taken_X6_isEmpty rfl (by decide +kernel) ⟨rfl, rfl⟩ ⟨Nat.le_of_ble_eq_true rfl, Nat.le_of_ble_eq_true rfl⟩ [0] [1, 2, 3, 4] rfl rfl rfl rfl (by decide) (ci := 5) rfl rfl 0 rfl rfl rfl (Nat.le_of_ble_eq_true rfl) ⟨Nat.le_of_ble_eq_true rfl, Nat.le_of_ble_eq_true rfl⟩ dX10_taken_20 (fun v_20 w_20 h_20 => ?_)
      rcases h_20 with ⟨rfl, rfl, hhy_8⟩ | ⟨rfl, rfl, hhn_9⟩
      · refine V_to (pc' := 23) (ls' := [(3, .ref s1), (0, .ref x), (1, .int j), (2, .int i)]) (st' := [.int (1 : Int32)]) (ws' := [(at_, .inr (0, [.ref ka, .ref ta, .int asz, .int arn, .int aac])), (ka, .inl (Y 0, 50, .inl fk)), (x, .inr (9, [.ref sgs, .ref ch, .ref g, .ref tp, .ref d, .ref di, .ref cg, .ref at_, .ref shs, .ref sl_, .int fo, .int ik])), (shs, .inl (Y 5, 6, .inr (.inr (.inr (.inr hsq))))), (s1, .inr (5, [.ref c, .int hd, .int bd, .int so, .int le]))]) ?_ rfl rfl rfl rfl
        refine V_if_eq X (show (1 : Int32).toInt = 1 from by decide) 29 dX10_taken_23 (by decide) (fun c_23 => absurd c_23 (by decide)) (fun _ => ?_)
        refine V_bipush (v := (-11 : Int32)) X (by decide) dX10_taken_26 ?_
        refine V_ws (ws' := [(x, .inr (9, [.ref sgs, .ref ch, .ref g, .ref tp, .ref d, .ref di, .ref cg, .ref at_, .ref shs, .ref sl_, .int fo, .int ik])), (shs, .inl (Y 5, 6, .inr (.inr (.inr (.inr hsq))))), (s1, .inr (5, [.ref c, .int hd, .int bd, .int so, .int le])), (at_, .inr (0, [.ref ka, .ref ta, .int asz, .int arn, .int aac])), (ka, .inl (Y 0, 50, .inl fk))]) [2, 3, 4, 0, 1] rfl rfl rfl ?_
        exact V_iret X hr dX10_taken_28 (Or.inr (Or.inl ⟨rfl, rfl, hh1_2, hhy_8⟩))
      · refine V_to (pc' := 23) (ls' := [(3, .ref s1), (0, .ref x), (1, .int j), (2, .int i)]) (st' := [.int (0 : Int32)]) (ws' := [(at_, .inr (0, [.ref ka, .ref ta, .int asz, .int arn, .int aac])), (ka, .inl (Y 0, 50, .inl fk)), (x, .inr (9, [.ref sgs, .ref ch, .ref g, .ref tp, .ref d, .ref di, .ref cg, .ref at_, .ref shs, .ref sl_, .int fo, .int ik])), (shs, .inl (Y 5, 6, .inr (.inr (.inr (.inr hsq))))), (s1, .inr (5, [.ref c, .int hd, .int bd, .int so, .int le]))]) ?_ rfl rfl rfl rfl
        refine V_if_eq X (show (0 : Int32).toInt = 0 from by decide) 29 dX10_taken_23 (by decide) (fun _ => ?_) (fun c_23 => absurd c_23 (by decide))
        refine V_aload_n X 0 rfl dX10_taken_29 ?_
        refine V_callV (C := RX6) (wr := [(at_, .inr (0, [.ref ka, .ref ta, .int asz, .int arn, .int aac])), (ka, .inl (Y 0, 50, .inl fk)), (x, .inr (9, [.ref sgs, .ref ch, .ref g, .ref tp, .ref d, .ref di, .ref cg, .ref at_, .ref shs, .ref sl_, .int fo, .int ik])), (shs, .inl (Y 5, 6, .inr (.inr (.inr (.inr hsq)))))]) (st := []) X (c_X6_isRow l D Y s1 c hd bd so le) 0 gX10_taken_X6_isRow rfl (by decide +kernel) ⟨rfl, rfl⟩ ⟨Nat.le_of_ble_eq_true rfl, Nat.le_of_ble_eq_true rfl⟩ [4] [0, 1, 2, 3] rfl rfl rfl rfl (by decide) (ci := 5) rfl rfl 0 rfl rfl rfl (Nat.le_of_ble_eq_true rfl) ⟨Nat.le_of_ble_eq_true rfl, Nat.le_of_ble_eq_true rfl⟩ dX10_taken_30 (fun v_30 w_30 h_30 => ?_)
        rcases h_30 with ⟨rfl, rfl, hhy_11⟩ | ⟨rfl, rfl, hhn_12⟩
        · refine V_to (pc' := 33) (ls' := [(3, .ref s1), (0, .ref x), (1, .int j), (2, .int i)]) (st' := [.int (1 : Int32)]) (ws' := [(at_, .inr (0, [.ref ka, .ref ta, .int asz, .int arn, .int aac])), (ka, .inl (Y 0, 50, .inl fk)), (x, .inr (9, [.ref sgs, .ref ch, .ref g, .ref tp, .ref d, .ref di, .ref cg, .ref at_, .ref shs, .ref sl_, .int fo, .int ik])), (shs, .inl (Y 5, 6, .inr (.inr (.inr (.inr hsq))))), (s1, .inr (5, [.ref c, .int hd, .int bd, .int so, .int le]))]) ?_ rfl rfl rfl rfl
          refine V_if_eq X (show (1 : Int32).toInt = 1 from by decide) 39 dX10_taken_33 (by decide) (fun c_33 => absurd c_33 (by decide)) (fun _ => ?_)
          refine V_bipush (v := (-12 : Int32)) X (by decide) dX10_taken_36 ?_
          refine V_ws (ws' := [(x, .inr (9, [.ref sgs, .ref ch, .ref g, .ref tp, .ref d, .ref di, .ref cg, .ref at_, .ref shs, .ref sl_, .int fo, .int ik])), (shs, .inl (Y 5, 6, .inr (.inr (.inr (.inr hsq))))), (s1, .inr (5, [.ref c, .int hd, .int bd, .int so, .int le])), (at_, .inr (0, [.ref ka, .ref ta, .int asz, .int arn, .int aac])), (ka, .inl (Y 0, 50, .inl fk))]) [2, 3, 4, 0, 1] rfl rfl rfl ?_
          exact V_iret X hr dX10_taken_38 (Or.inr (Or.inr (Or.inl ⟨rfl, rfl, hh1_2, hhy_11⟩)))
        · refine V_to (pc' := 33) (ls' := [(3, .ref s1), (0, .ref x), (1, .int j), (2, .int i)]) (st' := [.int (0 : Int32)]) (ws' := [(at_, .inr (0, [.ref ka, .ref ta, .int asz, .int arn, .int aac])), (ka, .inl (Y 0, 50, .inl fk)), (x, .inr (9, [.ref sgs, .ref ch, .ref g, .ref tp, .ref d, .ref di, .ref cg, .ref at_, .ref shs, .ref sl_, .int fo, .int ik])), (shs, .inl (Y 5, 6, .inr (.inr (.inr (.inr hsq))))), (s1, .inr (5, [.ref c, .int hd, .int bd, .int so, .int le]))]) ?_ rfl rfl rfl rfl
          refine V_if_eq X (show (0 : Int32).toInt = 0 from by decide) 39 dX10_taken_33 (by decide) (fun _ => ?_) (fun c_33 => absurd c_33 (by decide))
          refine V_aload_n X 1 rfl dX10_taken_39 ?_
          refine V_get (C := RX10) (T := TX10) (N := 12) (ci := 9) (v := .ref at_) X in_X10_taken_X10 2 rfl rfl 7 (by decide) (List.mem_of_getElem? (i := 1) rfl) rfl rfl dX10_taken_40 ?_
          refine V_aload_n X 0 rfl dX10_taken_43 ?_
          refine V_callV (C := RX6) (wr := [(at_, .inr (0, [.ref ka, .ref ta, .int asz, .int arn, .int aac])), (ka, .inl (Y 0, 50, .inl fk)), (x, .inr (9, [.ref sgs, .ref ch, .ref g, .ref tp, .ref d, .ref di, .ref cg, .ref at_, .ref shs, .ref sl_, .int fo, .int ik])), (shs, .inl (Y 5, 6, .inr (.inr (.inr (.inr hsq)))))]) (st := [.ref at_]) X (c_X6_bodyHeld l D Y s1 c hd bd so le) 0 gX10_taken_X6_bodyHeld rfl (by decide +kernel) ⟨rfl, rfl⟩ ⟨Nat.le_of_ble_eq_true rfl, Nat.le_of_ble_eq_true rfl⟩ [4] [0, 1, 2, 3] rfl rfl rfl rfl (by decide) (ci := 5) rfl rfl 0 rfl rfl rfl (Nat.le_of_ble_eq_true rfl) ⟨Nat.le_of_ble_eq_true rfl, Nat.le_of_ble_eq_true rfl⟩ dX10_taken_44 (fun v_44 w_44 h_44 => ?_)
          obtain ⟨rfl, rfl⟩ := h_44
          refine V_to (pc' := 47) (ls' := [(3, .ref s1), (0, .ref x), (1, .int j), (2, .int i)]) (st' := [.int bd, .ref at_]) (ws' := [(at_, .inr (0, [.ref ka, .ref ta, .int asz, .int arn, .int aac])), (ka, .inl (Y 0, 50, .inl fk)), (x, .inr (9, [.ref sgs, .ref ch, .ref g, .ref tp, .ref d, .ref di, .ref cg, .ref at_, .ref shs, .ref sl_, .int fo, .int ik])), (shs, .inl (Y 5, 6, .inr (.inr (.inr (.inr hsq))))), (s1, .inr (5, [.ref c, .int hd, .int bd, .int so, .int le]))]) ?_ rfl rfl rfl rfl
          refine V_callV (C := RX0) (wr := [(x, .inr (9, [.ref sgs, .ref ch, .ref g, .ref tp, .ref d, .ref di, .ref cg, .ref at_, .ref shs, .ref sl_, .int fo, .int ik])), (shs, .inl (Y 5, 6, .inr (.inr (.inr (.inr hsq))))), (s1, .inr (5, [.ref c, .int hd, .int bd, .int so, .int le]))]) (st := []) X (c_X0_kindOf l D Y at_ ka ta asz arn aac bd bn fk (hbd (by omega) (by omega)) hbn50) 1 gX10_taken_X0_kindOf rfl (by decide +kernel) ⟨rfl, rfl⟩ ⟨Nat.le_of_ble_eq_true rfl, Nat.le_of_ble_eq_true rfl⟩ [0, 1] [2, 3, 4] rfl rfl rfl rfl (by decide) (ci := 0) rfl rfl 0 rfl rfl rfl (Nat.le_of_ble_eq_true rfl) ⟨Nat.le_of_ble_eq_true rfl, Nat.le_of_ble_eq_true rfl⟩ dX10_taken_47 (fun v_47 w_47 h_47 => ?_)
          obtain ⟨rfl, rfl⟩ := h_47
          refine V_to (pc' := 50) (ls' := [(3, .ref s1), (0, .ref x), (1, .int j), (2, .int i)]) (st' := [.int (fk bn)]) (ws' := [(x, .inr (9, [.ref sgs, .ref ch, .ref g, .ref tp, .ref d, .ref di, .ref cg, .ref at_, .ref shs, .ref sl_, .int fo, .int ik])), (shs, .inl (Y 5, 6, .inr (.inr (.inr (.inr hsq))))), (s1, .inr (5, [.ref c, .int hd, .int bd, .int so, .int le])), (at_, .inr (0, [.ref ka, .ref ta, .int asz, .int arn, .int aac])), (ka, .inl (Y 0, 50, .inl fk))]) ?_ rfl rfl rfl rfl
          refine V_istore (ls' := [(4, .int (fk bn)), (3, .ref s1), (0, .ref x), (1, .int j), (2, .int i)]) X (by decide) rfl dX10_taken_50 ?_
          refine V_iload X 0 rfl dX10_taken_52 ?_
          refine V_iload_n X 4 rfl dX10_taken_54 ?_
          refine V_callS (wr := [(x, .inr (9, [.ref sgs, .ref ch, .ref g, .ref tp, .ref d, .ref di, .ref cg, .ref at_, .ref shs, .ref sl_, .int fo, .int ik])), (shs, .inl (Y 5, 6, .inr (.inr (.inr (.inr hsq))))), (s1, .inr (5, [.ref c, .int hd, .int bd, .int so, .int le])), (at_, .inr (0, [.ref ka, .ref ta, .int asz, .int arn, .int aac])), (ka, .inl (Y 0, 50, .inl fk))]) (st := []) X (c_X0_isUnder l D Y (fk bn) K i (hkn (by omega) (by omega)) hK8 (by omega)) 2 gX10_taken_X0_isUnder rfl (by decide +kernel) ⟨rfl, rfl⟩ ⟨Nat.le_of_ble_eq_true rfl, Nat.le_of_ble_eq_true rfl⟩ [] [0, 1, 2, 3, 4] rfl rfl rfl rfl (by decide) rfl rfl (Nat.le_of_ble_eq_true rfl) ⟨Nat.le_of_ble_eq_true rfl, Nat.le_of_ble_eq_true rfl⟩ dX10_taken_55 (fun v_55 w_55 h_55 => ?_)
          rcases h_55 with ⟨rfl, rfl, hhy_16⟩ | ⟨rfl, rfl, hhn_17⟩
          · refine V_to (pc' := 58) (ls' := [(4, .int (fk bn)), (3, .ref s1), (0, .ref x), (1, .int j), (2, .int i)]) (st' := [.int (1 : Int32)]) (ws' := [(x, .inr (9, [.ref sgs, .ref ch, .ref g, .ref tp, .ref d, .ref di, .ref cg, .ref at_, .ref shs, .ref sl_, .int fo, .int ik])), (shs, .inl (Y 5, 6, .inr (.inr (.inr (.inr hsq))))), (s1, .inr (5, [.ref c, .int hd, .int bd, .int so, .int le])), (at_, .inr (0, [.ref ka, .ref ta, .int asz, .int arn, .int aac])), (ka, .inl (Y 0, 50, .inl fk))]) ?_ rfl rfl rfl rfl
            refine V_if_eq X (show (1 : Int32).toInt = 1 from by decide) 66 dX10_taken_58 (by decide) (fun c_58 => absurd c_58 (by decide)) (fun _ => ?_)
            refine V_iload X 0 rfl dX10_taken_61 ?_
            refine V_goto X 68 (by decide) dX10_taken_63 ?_
            exact V_iret X hr dX10_taken_68 (Or.inr (Or.inr (Or.inr (Or.inl ⟨(fk bn), rfl, rfl, hh1_2, (by omega), hhy_16, (hkn (by omega) (by omega))⟩))))
          · refine V_to (pc' := 58) (ls' := [(4, .int (fk bn)), (3, .ref s1), (0, .ref x), (1, .int j), (2, .int i)]) (st' := [.int (0 : Int32)]) (ws' := [(x, .inr (9, [.ref sgs, .ref ch, .ref g, .ref tp, .ref d, .ref di, .ref cg, .ref at_, .ref shs, .ref sl_, .int fo, .int ik])), (shs, .inl (Y 5, 6, .inr (.inr (.inr (.inr hsq))))), (s1, .inr (5, [.ref c, .int hd, .int bd, .int so, .int le])), (at_, .inr (0, [.ref ka, .ref ta, .int asz, .int arn, .int aac])), (ka, .inl (Y 0, 50, .inl fk))]) ?_ rfl rfl rfl rfl
            refine V_if_eq X (show (0 : Int32).toInt = 0 from by decide) 66 dX10_taken_58 (by decide) (fun _ => ?_) (fun c_58 => absurd c_58 (by decide))
            refine V_bipush (v := (-12 : Int32)) X (by decide) dX10_taken_66 ?_
            exact V_iret X hr dX10_taken_68 (Or.inr (Or.inr (Or.inr (Or.inr (⟨rfl, rfl, hh1_2, (by omega), hhn_17⟩)))))
    · refine V_to (pc' := 14) (ls' := [(3, .ref s1), (0, .ref x), (1, .int j), (2, .int i)]) (st' := [.int (0 : Int32)]) (ws' := [(s1, .inr (5, [.ref c, .int hd, .int bd, .int so, .int le])), (at_, .inr (0, [.ref ka, .ref ta, .int asz, .int arn, .int aac])), (ka, .inl (Y 0, 50, .inl fk)), (x, .inr (9, [.ref sgs, .ref ch, .ref g, .ref tp, .ref d, .ref di, .ref cg, .ref at_, .ref shs, .ref sl_, .int fo, .int ik])), (shs, .inl (Y 5, 6, .inr (.inr (.inr (.inr hsq)))))]) ?_ rfl rfl rfl rfl
      refine V_if_ne X (show (0 : Int32).toInt = 0 from by decide) 19 dX10_taken_14 (by decide) (fun c_14 => absurd c_14 (by decide)) (fun _ => ?_)
      refine V_iconst (v := (-1 : Int32)) X (by decide) dX10_taken_17 ?_
      refine V_ws (ws' := [(x, .inr (9, [.ref sgs, .ref ch, .ref g, .ref tp, .ref d, .ref di, .ref cg, .ref at_, .ref shs, .ref sl_, .int fo, .int ik])), (shs, .inl (Y 5, 6, .inr (.inr (.inr (.inr hsq))))), (s1, .inr (5, [.ref c, .int hd, .int bd, .int so, .int le])), (at_, .inr (0, [.ref ka, .ref ta, .int asz, .int arn, .int aac])), (ka, .inl (Y 0, 50, .inl fk))]) [3, 4, 0, 1, 2] rfl rfl rfl ?_
      exact V_iret X hr dX10_taken_18 (Or.inl ⟨rfl, rfl, (by omega)⟩)
  · refine V_to (pc' := 5) (ls' := [(0, .ref x), (1, .int j), (2, .int i)]) (st' := [.null]) (ws' := [(s1, .inr (5, [.ref c, .int hd, .int bd, .int so, .int le])), (at_, .inr (0, [.ref ka, .ref ta, .int asz, .int arn, .int aac])), (ka, .inl (Y 0, 50, .inl fk)), (x, .inr (9, [.ref sgs, .ref ch, .ref g, .ref tp, .ref d, .ref di, .ref cg, .ref at_, .ref shs, .ref sl_, .int fo, .int ik])), (shs, .inl (Y 5, 6, .inr (.inr (.inr (.inr hsq)))))]) ?_ rfl rfl rfl rfl
    refine V_astore_nN (ls' := [(3, .null), (0, .ref x), (1, .int j), (2, .int i)]) X (by decide) rfl dX10_taken_5 ?_
    refine V_aload_nN X 0 rfl dX10_taken_6 ?_
    refine V_ifnullN X 17 dX10_taken_7 (by decide) ?_
    refine V_iconst (v := (-1 : Int32)) X (by decide) dX10_taken_17 ?_
    refine V_ws (ws' := [(x, .inr (9, [.ref sgs, .ref ch, .ref g, .ref tp, .ref d, .ref di, .ref cg, .ref at_, .ref shs, .ref sl_, .int fo, .int ik])), (shs, .inl (Y 5, 6, .inr (.inr (.inr (.inr hsq))))), (s1, .inr (5, [.ref c, .int hd, .int bd, .int so, .int le])), (at_, .inr (0, [.ref ka, .ref ta, .int asz, .int arn, .int aac])), (ka, .inl (Y 0, 50, .inl fk))]) [3, 4, 0, 1, 2] rfl rfl rfl ?_
    exact V_iret X hr dX10_taken_18 (Or.inl ⟨rfl, rfl, (by omega)⟩)

theorem in_X9_isFull_X9 : ∀ w ∈ wsX90, w ∈ wsX9_isFull := fun w h => List.mem_cons_of_mem _ (List.mem_append_right _ h)
set_option maxHeartbeats 4000000 in
set_option maxRecDepth 100000 in
theorem c_X9_isFull (l : Launch) (D : va_G) (Y : Nat → ClassId) (tp : Nat) (tb : Nat) (lw : Nat) (tl : Int32) (pl : Int32) (fa : Int32) (L : Nat) (fb : Nat → Int32) (ttl : tl.toInt = ((L : Nat) : Int)) (hL : L ≤ 120) : Mg l yX9_isFull wsX9_isFull ({ frames := 0, cells := 0, slots := 0, locals := 0 }) D Y [(tp, .inr (8, [.ref tb, .int tl, .ref lw, .int pl, .int fa])), (tb, .inl (Y 0, 120, .inl fb))] [.ref tp] 0 0 (fun vv__ ww__ => (vv__ = some (.int (1 : Int32)) ∧ ww__ = [(tp, .inr (8, [.ref tb, .int tl, .ref lw, .int pl, .int fa])), (tb, .inl (Y 0, 120, .inl fb))] ∧ (L = 120)) ∨ (vv__ = some (.int (0 : Int32)) ∧ ww__ = [(tp, .inr (8, [.ref tb, .int tl, .ref lw, .int pl, .int fa])), (tb, .inl (Y 0, 120, .inl fb))] ∧ (L < 120))) := by
  refine Mg_of (cc := cX9_isFull) (maxL := 1) (ret := (some .boolean)) (ls0 := [(0, .ref tp)]) RX9 (by decide) rfl rfl rfl (Nat.le_of_ble_eq_true rfl) (fun p__ e__ s__ m__ b__ t__ c__ X hr hn => ?_)
  refine V_aload_n X 0 rfl dX9_isFull_0 ?_
  refine V_get (C := RX9) (T := TX9) (N := 5) (ci := 8) (v := .int tl) X in_X9_isFull_X9 0 rfl rfl 1 (by decide) (List.mem_of_getElem? (i := 1) rfl) rfl rfl dX9_isFull_1 ?_
  refine V_aload_n X 0 rfl dX9_isFull_4 ?_
  refine V_get (C := RX9) (T := TX9) (N := 5) (ci := 8) (v := .ref tb) X in_X9_isFull_X9 0 rfl rfl 0 (by decide) (List.mem_of_getElem? (i := 2) rfl) rfl rfl dX9_isFull_5 ?_
  refine V_alen (v := (120 : Int32)) X 1 0 rfl rfl rfl dX9_isFull_8 ?_
  refine V_icmp_lt X ttl (show (120 : Int32).toInt = 120 from by decide) 16 dX9_isFull_9 (by decide) (fun c_9 => ?_) (fun c_9 => ?_)
  · refine V_iconst (v := (0 : Int32)) X (by decide) dX9_isFull_16 ?_
    exact V_zret X hr rfl dX9_isFull_17 (Or.inr (⟨rfl, rfl, (by omega)⟩))
  · refine V_iconst (v := (1 : Int32)) X (by decide) dX9_isFull_12 ?_
    refine V_goto X 17 (by decide) dX9_isFull_13 ?_
    exact V_zret X hr rfl dX9_isFull_17 (Or.inl ⟨rfl, rfl, (by omega)⟩)

theorem in_X9_length_X9 : ∀ w ∈ wsX90, w ∈ wsX9_length := fun w h => List.mem_cons_of_mem _ (List.mem_append_right _ h)
set_option maxHeartbeats 4000000 in
set_option maxRecDepth 100000 in
theorem c_X9_length (l : Launch) (D : va_G) (Y : Nat → ClassId) (tp : Nat) (tb : Nat) (lw : Nat) (tl : Int32) (pl : Int32) (fa : Int32) (L : Nat) (ttl : tl.toInt = ((L : Nat) : Int)) (hL : L ≤ 120) : Mg l yX9_length wsX9_length ({ frames := 0, cells := 0, slots := 0, locals := 0 }) D Y [(tp, .inr (8, [.ref tb, .int tl, .ref lw, .int pl, .int fa]))] [.ref tp] 0 0 (fun vv__ ww__ => (∃ (r : Int32), vv__ = some (.int r) ∧ ww__ = [(tp, .inr (8, [.ref tb, .int tl, .ref lw, .int pl, .int fa]))] ∧ (r.toInt = ((L : Nat) : Int)) ∧ (r = tl))) := by
  refine Mg_of (cc := cX9_length) (maxL := 1) (ret := (some .int)) (ls0 := [(0, .ref tp)]) RX9 (by decide) rfl rfl rfl (Nat.le_of_ble_eq_true rfl) (fun p__ e__ s__ m__ b__ t__ c__ X hr hn => ?_)
  refine V_aload_n X 0 rfl dX9_length_0 ?_
  refine V_get (C := RX9) (T := TX9) (N := 5) (ci := 8) (v := .int tl) X in_X9_length_X9 0 rfl rfl 1 (by decide) (List.mem_of_getElem? (i := 1) rfl) rfl rfl dX9_length_1 ?_
  exact V_iret X hr dX9_length_4 (⟨tl, rfl, rfl, ttl, rfl⟩)

theorem in_X9_take_X9 : ∀ w ∈ wsX90, w ∈ wsX9_take := fun w h => List.mem_cons_of_mem _ (List.mem_append_right _ h)
set_option maxHeartbeats 4000000 in
set_option maxRecDepth 100000 in
theorem c_X9_take (l : Launch) (D : va_G) (Y : Nat → ClassId) (tp : Nat) (tb : Nat) (lw : Nat) (tl : Int32) (pl : Int32) (fa : Int32) (L : Nat) (x : Int32) (fb : Nat → Int32) (ttl : tl.toInt = ((L : Nat) : Int)) (hL : L ≤ 120) (hlt : L < 120) : Mg l yX9_take wsX9_take ({ frames := 1, cells := 0, slots := 0, locals := 22 }) D Y [(tp, .inr (8, [.ref tb, .int tl, .ref lw, .int pl, .int fa])), (tb, .inl (Y 0, 120, .inl fb))] [.ref tp, .int x] 0 0 (fun vv__ ww__ => (∃ (tl2 : Int32), vv__ = none ∧ ww__ = [(tp, .inr (8, [.ref tb, .int tl2, .ref lw, .int pl, .int fa])), (tb, .inl (Y 0, 120, .inl (upd fb L x)))] ∧ (tl2.toInt = ((L + 1 : Nat) : Int)))) := by
  refine Mg_of (cc := cX9_take) (maxL := 2) (ret := none) (ls0 := [(0, .ref tp), (1, .int x)]) RX9 (by decide) rfl rfl rfl (Nat.le_of_ble_eq_true rfl) (fun p__ e__ s__ m__ b__ t__ c__ X hr hn => ?_)
  refine V_aload_n X 0 rfl dX9_take_0 ?_
  refine V_callV (C := RX9) (wr := []) (st := []) X (c_X9_isFull l D Y tp tb lw tl pl fa L fb ttl hL) 0 gX9_take_X9_isFull rfl (by decide +kernel) ⟨rfl, rfl⟩ ⟨Nat.le_of_ble_eq_true rfl, Nat.le_of_ble_eq_true rfl⟩ [0, 1] [] rfl rfl rfl rfl (by decide) (ci := 8) rfl rfl 0 rfl rfl rfl (Nat.le_of_ble_eq_true rfl) ⟨Nat.le_of_ble_eq_true rfl, Nat.le_of_ble_eq_true rfl⟩ dX9_take_1 (fun v_1 w_1 h_1 => ?_)
  rcases h_1 with ⟨rfl, rfl, hhy_2⟩ | ⟨rfl, rfl, hhn_3⟩
  · exfalso; omega
  · refine V_to (pc' := 4) (ls' := [(0, .ref tp), (1, .int x)]) (st' := [.int (0 : Int32)]) (ws' := [(tp, .inr (8, [.ref tb, .int tl, .ref lw, .int pl, .int fa])), (tb, .inl (Y 0, 120, .inl fb))]) ?_ rfl rfl rfl rfl
    refine V_if_eq X (show (0 : Int32).toInt = 0 from by decide) 8 dX9_take_4 (by decide) (fun _ => ?_) (fun c_4 => absurd c_4 (by decide))
    refine V_aload_n X 0 rfl dX9_take_8 ?_
    refine V_get (C := RX9) (T := TX9) (N := 5) (ci := 8) (v := .ref tb) X in_X9_take_X9 0 rfl rfl 0 (by decide) (List.mem_of_getElem? (i := 1) rfl) rfl rfl dX9_take_9 ?_
    refine V_aload_n X 0 rfl dX9_take_12 ?_
    refine V_get (C := RX9) (T := TX9) (N := 5) (ci := 8) (v := .int tl) X in_X9_take_X9 0 rfl rfl 1 (by decide) (List.mem_of_getElem? (i := 2) rfl) rfl rfl dX9_take_13 ?_
    refine V_iload_n X 1 rfl dX9_take_16 ?_
    refine V_callS (wr := [(tp, .inr (8, [.ref tb, .int tl, .ref lw, .int pl, .int fa]))]) (st := []) X (c_X1_set l D Y tb tl L x 120 fb ttl hhn_3 (by omega)) 3 gX9_take_X1_set rfl (by decide +kernel) ⟨rfl, rfl⟩ ⟨Nat.le_of_ble_eq_true rfl, Nat.le_of_ble_eq_true rfl⟩ [1] [0] rfl rfl rfl rfl (by decide) rfl rfl (Nat.le_of_ble_eq_true rfl) ⟨Nat.le_of_ble_eq_true rfl, Nat.le_of_ble_eq_true rfl⟩ dX9_take_17 (fun v_17 w_17 h_17 => ?_)
    obtain ⟨rfl, rfl⟩ := h_17
    refine V_to (pc' := 20) (ls' := [(0, .ref tp), (1, .int x)]) (st' := []) (ws' := [(tp, .inr (8, [.ref tb, .int tl, .ref lw, .int pl, .int fa])), (tb, .inl (Y 0, 120, .inl (upd fb L x)))]) ?_ rfl rfl rfl rfl
    refine V_aload_n X 0 rfl dX9_take_20 ?_
    refine V_dup X rfl dX9_take_21 ?_
    refine V_get (C := RX9) (T := TX9) (N := 5) (ci := 8) (v := .int tl) X in_X9_take_X9 0 rfl rfl 1 (by decide) (List.mem_of_getElem? (i := 2) rfl) rfl rfl dX9_take_22 ?_
    refine V_iconst (v := (1 : Int32)) X (by decide) dX9_take_25 ?_
    refine V_iaddZ X ttl (show (1 : Int32).toInt = 1 from by decide) (by omega) (by omega) dX9_take_26 (fun x_5 ex_5 tx_5 => ?_)
    have tx_5 : x_5.toInt = (((L + 1) : Nat) : Int) := by omega
    refine V_put (C := RX9) (T := TX9) (N := 5) (ci := 8) (v := .int x_5) (ty := tyX9 1) (ws' := [(tp, .inr (8, [.ref tb, .int x_5, .ref lw, .int pl, .int fa])), (tb, .inl (Y 0, 120, .inl (upd fb L x)))]) X in_X9_take_X9 0 rfl rfl 1 (by decide) (List.mem_of_getElem? (i := 2) rfl) rfl tyX9 tyX9_ok nmX9 rfl (tyX9_ok 1 (by decide)) rfl rfl (Nat.le_of_ble_eq_true rfl) rfl dX9_take_27 ?_
    exact V_vret X hr dX9_take_30 (⟨x_5, rfl, rfl, (by omega)⟩)

theorem in_X10_feed_X10 : ∀ w ∈ wsX100, w ∈ wsX10_feed := fun w h => List.mem_cons_of_mem _ (List.mem_append_left _ (List.mem_append_right _ h))
set_option maxHeartbeats 4000000 in
set_option maxRecDepth 100000 in
theorem c_X10_feed (l : Launch) (D : va_G) (Y : Nat → ClassId) (x : Nat) (sgs : Nat) (ch : Nat) (g : Nat) (tp : Nat) (d : Nat) (di : Nat) (cg : Nat) (at_ : Nat) (shs : Nat) (sl_ : Nat) (fo : Int32) (ik : Int32) (tb : Nat) (lw : Nat) (tl : Int32) (pl : Int32) (fa : Int32) (L : Nat) (i : Int32) (fb : Nat → Int32) (ttl : tl.toInt = ((L : Nat) : Int)) (hL : L ≤ 120) : Mg l yX10_feed wsX10_feed ({ frames := 2, cells := 0, slots := 0, locals := 43 }) D Y [(x, .inr (9, [.ref sgs, .ref ch, .ref g, .ref tp, .ref d, .ref di, .ref cg, .ref at_, .ref shs, .ref sl_, .int fo, .int ik])), (tp, .inr (8, [.ref tb, .int tl, .ref lw, .int pl, .int fa])), (tb, .inl (Y 0, 120, .inl fb))] [.ref x, .int i] 0 0 (fun vv__ ww__ => (vv__ = some (.int (-1 : Int32)) ∧ ww__ = [(x, .inr (9, [.ref sgs, .ref ch, .ref g, .ref tp, .ref d, .ref di, .ref cg, .ref at_, .ref shs, .ref sl_, .int fo, .int ik])), (tp, .inr (8, [.ref tb, .int tl, .ref lw, .int pl, .int fa])), (tb, .inl (Y 0, 120, .inl fb))] ∧ (¬ (0 ≤ i.toInt ∧ i.toInt < 256))) ∨ (vv__ = some (.int (-3 : Int32)) ∧ ww__ = [(x, .inr (9, [.ref sgs, .ref ch, .ref g, .ref tp, .ref d, .ref di, .ref cg, .ref at_, .ref shs, .ref sl_, .int fo, .int ik])), (tp, .inr (8, [.ref tb, .int tl, .ref lw, .int pl, .int fa])), (tb, .inl (Y 0, 120, .inl fb))] ∧ (0 ≤ i.toInt ∧ i.toInt < 256) ∧ (L = 120)) ∨ (∃ (r : Int32), ∃ (tl2 : Int32), vv__ = some (.int r) ∧ ww__ = [(x, .inr (9, [.ref sgs, .ref ch, .ref g, .ref tp, .ref d, .ref di, .ref cg, .ref at_, .ref shs, .ref sl_, .int fo, .int ik])), (tp, .inr (8, [.ref tb, .int tl2, .ref lw, .int pl, .int fa])), (tb, .inl (Y 0, 120, .inl (upd fb L i)))] ∧ (0 ≤ i.toInt ∧ i.toInt < 256) ∧ (L < 120) ∧ (r.toInt = ((L + 1 : Nat) : Int)) ∧ (tl2.toInt = ((L + 1 : Nat) : Int)))) := by
  refine Mg_of (cc := cX10_feed) (maxL := 2) (ret := (some .int)) (ls0 := [(0, .ref x), (1, .int i)]) RX10 (by decide) rfl rfl rfl (Nat.le_of_ble_eq_true rfl) (fun p__ e__ s__ m__ b__ t__ c__ X hr hn => ?_)
  refine V_iload_n X 1 rfl dX10_feed_0 ?_
  refine V_sipush (v := (256 : Int32)) X (by decide) dX10_feed_1 ?_
  refine V_callS (wr := [(x, .inr (9, [.ref sgs, .ref ch, .ref g, .ref tp, .ref d, .ref di, .ref cg, .ref at_, .ref shs, .ref sl_, .int fo, .int ik])), (tp, .inr (8, [.ref tb, .int tl, .ref lw, .int pl, .int fa])), (tb, .inl (Y 0, 120, .inl fb))]) (st := []) X (c_X10_isOf l D Y i (256 : Int32)) 2 gX10_feed_X10_isOf rfl (by decide +kernel) ⟨rfl, rfl⟩ ⟨Nat.le_of_ble_eq_true rfl, Nat.le_of_ble_eq_true rfl⟩ [] [0, 1, 2] rfl rfl rfl rfl (by decide) rfl rfl (Nat.le_of_ble_eq_true rfl) ⟨Nat.le_of_ble_eq_true rfl, Nat.le_of_ble_eq_true rfl⟩ dX10_feed_4 (fun v_4 w_4 h_4 => ?_)
  rcases h_4 with ⟨rfl, rfl, hhy_2⟩ | ⟨rfl, rfl, hhn_3⟩
  · refine V_to (pc' := 7) (ls' := [(0, .ref x), (1, .int i)]) (st' := [.int (1 : Int32)]) (ws' := [(x, .inr (9, [.ref sgs, .ref ch, .ref g, .ref tp, .ref d, .ref di, .ref cg, .ref at_, .ref shs, .ref sl_, .int fo, .int ik])), (tp, .inr (8, [.ref tb, .int tl, .ref lw, .int pl, .int fa])), (tb, .inl (Y 0, 120, .inl fb))]) ?_ rfl rfl rfl rfl
    have hc_256 : (256 : Int32).toInt = 256 := by decide
    refine V_if_ne X (show (1 : Int32).toInt = 1 from by decide) 12 dX10_feed_7 (by decide) (fun _ => ?_) (fun c_7 => absurd c_7 (by decide))
    refine V_aload_n X 0 rfl dX10_feed_12 ?_
    refine V_get (C := RX10) (T := TX10) (N := 12) (ci := 9) (v := .ref tp) X in_X10_feed_X10 0 rfl rfl 3 (by decide) (List.mem_of_getElem? (i := 1) rfl) rfl rfl dX10_feed_13 ?_
    refine V_callV (C := RX9) (wr := [(x, .inr (9, [.ref sgs, .ref ch, .ref g, .ref tp, .ref d, .ref di, .ref cg, .ref at_, .ref shs, .ref sl_, .int fo, .int ik]))]) (st := []) X (c_X9_isFull l D Y tp tb lw tl pl fa L fb ttl hL) 0 gX10_feed_X9_isFull rfl (by decide +kernel) ⟨rfl, rfl⟩ ⟨Nat.le_of_ble_eq_true rfl, Nat.le_of_ble_eq_true rfl⟩ [1, 2] [0] rfl rfl rfl rfl (by decide) (ci := 8) rfl rfl 0 rfl rfl rfl (Nat.le_of_ble_eq_true rfl) ⟨Nat.le_of_ble_eq_true rfl, Nat.le_of_ble_eq_true rfl⟩ dX10_feed_16 (fun v_16 w_16 h_16 => ?_)
    rcases h_16 with ⟨rfl, rfl, hhy_5⟩ | ⟨rfl, rfl, hhn_6⟩
    · refine V_to (pc' := 19) (ls' := [(0, .ref x), (1, .int i)]) (st' := [.int (1 : Int32)]) (ws' := [(x, .inr (9, [.ref sgs, .ref ch, .ref g, .ref tp, .ref d, .ref di, .ref cg, .ref at_, .ref shs, .ref sl_, .int fo, .int ik])), (tp, .inr (8, [.ref tb, .int tl, .ref lw, .int pl, .int fa])), (tb, .inl (Y 0, 120, .inl fb))]) ?_ rfl rfl rfl rfl
      refine V_if_eq X (show (1 : Int32).toInt = 1 from by decide) 25 dX10_feed_19 (by decide) (fun c_19 => absurd c_19 (by decide)) (fun _ => ?_)
      refine V_bipush (v := (-3 : Int32)) X (by decide) dX10_feed_22 ?_
      exact V_iret X hr dX10_feed_24 (Or.inr (Or.inl ⟨rfl, rfl, (by omega), hhy_5⟩))
    · refine V_to (pc' := 19) (ls' := [(0, .ref x), (1, .int i)]) (st' := [.int (0 : Int32)]) (ws' := [(x, .inr (9, [.ref sgs, .ref ch, .ref g, .ref tp, .ref d, .ref di, .ref cg, .ref at_, .ref shs, .ref sl_, .int fo, .int ik])), (tp, .inr (8, [.ref tb, .int tl, .ref lw, .int pl, .int fa])), (tb, .inl (Y 0, 120, .inl fb))]) ?_ rfl rfl rfl rfl
      refine V_if_eq X (show (0 : Int32).toInt = 0 from by decide) 25 dX10_feed_19 (by decide) (fun _ => ?_) (fun c_19 => absurd c_19 (by decide))
      refine V_aload_n X 0 rfl dX10_feed_25 ?_
      refine V_get (C := RX10) (T := TX10) (N := 12) (ci := 9) (v := .ref tp) X in_X10_feed_X10 0 rfl rfl 3 (by decide) (List.mem_of_getElem? (i := 1) rfl) rfl rfl dX10_feed_26 ?_
      refine V_iload_n X 1 rfl dX10_feed_29 ?_
      refine V_callV (C := RX9) (wr := [(x, .inr (9, [.ref sgs, .ref ch, .ref g, .ref tp, .ref d, .ref di, .ref cg, .ref at_, .ref shs, .ref sl_, .int fo, .int ik]))]) (st := []) X (c_X9_take l D Y tp tb lw tl pl fa L i fb ttl hL hhn_6) 1 gX10_feed_X9_take rfl (by decide +kernel) ⟨rfl, rfl⟩ ⟨Nat.le_of_ble_eq_true rfl, Nat.le_of_ble_eq_true rfl⟩ [1, 2] [0] rfl rfl rfl rfl (by decide) (ci := 8) rfl rfl 0 rfl rfl rfl (Nat.le_of_ble_eq_true rfl) ⟨Nat.le_of_ble_eq_true rfl, Nat.le_of_ble_eq_true rfl⟩ dX10_feed_30 (fun v_30 w_30 h_30 => ?_)
      obtain ⟨tl2_8, rfl, rfl, httl2_9⟩ := h_30
      refine V_to (pc' := 33) (ls' := [(0, .ref x), (1, .int i)]) (st' := []) (ws' := [(x, .inr (9, [.ref sgs, .ref ch, .ref g, .ref tp, .ref d, .ref di, .ref cg, .ref at_, .ref shs, .ref sl_, .int fo, .int ik])), (tp, .inr (8, [.ref tb, .int tl2_8, .ref lw, .int pl, .int fa])), (tb, .inl (Y 0, 120, .inl (upd fb L i)))]) ?_ rfl rfl rfl rfl
      refine V_aload_n X 0 rfl dX10_feed_33 ?_
      refine V_get (C := RX10) (T := TX10) (N := 12) (ci := 9) (v := .ref tp) X in_X10_feed_X10 0 rfl rfl 3 (by decide) (List.mem_of_getElem? (i := 1) rfl) rfl rfl dX10_feed_34 ?_
      refine V_callV (C := RX9) (wr := [(x, .inr (9, [.ref sgs, .ref ch, .ref g, .ref tp, .ref d, .ref di, .ref cg, .ref at_, .ref shs, .ref sl_, .int fo, .int ik])), (tb, .inl (Y 0, 120, .inl (upd fb L i)))]) (st := []) X (c_X9_length l D Y tp tb lw tl2_8 pl fa (L + 1) httl2_9 (by omega)) 0 gX10_feed_X9_length rfl (by decide +kernel) ⟨rfl, rfl⟩ ⟨Nat.le_of_ble_eq_true rfl, Nat.le_of_ble_eq_true rfl⟩ [1] [0, 2] rfl rfl rfl rfl (by decide) (ci := 8) rfl rfl 0 rfl rfl rfl (Nat.le_of_ble_eq_true rfl) ⟨Nat.le_of_ble_eq_true rfl, Nat.le_of_ble_eq_true rfl⟩ dX10_feed_37 (fun v_37 w_37 h_37 => ?_)
      obtain ⟨r_11, rfl, rfl, htr_12, hhe_13⟩ := h_37
      refine V_to (pc' := 40) (ls' := [(0, .ref x), (1, .int i)]) (st' := [.int r_11]) (ws' := [(x, .inr (9, [.ref sgs, .ref ch, .ref g, .ref tp, .ref d, .ref di, .ref cg, .ref at_, .ref shs, .ref sl_, .int fo, .int ik])), (tb, .inl (Y 0, 120, .inl (upd fb L i))), (tp, .inr (8, [.ref tb, .int tl2_8, .ref lw, .int pl, .int fa]))]) ?_ rfl rfl rfl rfl
      refine V_ws (ws' := [(x, .inr (9, [.ref sgs, .ref ch, .ref g, .ref tp, .ref d, .ref di, .ref cg, .ref at_, .ref shs, .ref sl_, .int fo, .int ik])), (tp, .inr (8, [.ref tb, .int tl2_8, .ref lw, .int pl, .int fa])), (tb, .inl (Y 0, 120, .inl (upd fb L i)))]) [0, 2, 1] rfl rfl rfl ?_
      exact V_iret X hr dX10_feed_40 (Or.inr (Or.inr (⟨r_11, tl2_8, rfl, rfl, (by omega), hhn_6, htr_12, httl2_9⟩)))
  · refine V_to (pc' := 7) (ls' := [(0, .ref x), (1, .int i)]) (st' := [.int (0 : Int32)]) (ws' := [(x, .inr (9, [.ref sgs, .ref ch, .ref g, .ref tp, .ref d, .ref di, .ref cg, .ref at_, .ref shs, .ref sl_, .int fo, .int ik])), (tp, .inr (8, [.ref tb, .int tl, .ref lw, .int pl, .int fa])), (tb, .inl (Y 0, 120, .inl fb))]) ?_ rfl rfl rfl rfl
    have hc_256 : (256 : Int32).toInt = 256 := by decide
    refine V_if_ne X (show (0 : Int32).toInt = 0 from by decide) 12 dX10_feed_7 (by decide) (fun c_7 => absurd c_7 (by decide)) (fun _ => ?_)
    refine V_iconst (v := (-1 : Int32)) X (by decide) dX10_feed_10 ?_
    exact V_iret X hr dX10_feed_11 (Or.inl ⟨rfl, rfl, (by omega)⟩)
