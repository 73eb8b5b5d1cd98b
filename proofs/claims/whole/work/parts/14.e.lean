theorem in_X4_isOn_X4 : ∀ w ∈ wsX40, w ∈ wsX4_isOn := fun w h => List.mem_cons_of_mem _ (List.mem_append_left _ (List.mem_append_right _ h))
set_option maxHeartbeats 4000000 in
set_option maxRecDepth 100000 in
theorem c_X4_isOn (l : Launch) (D : va_G) (Y : Nat → ClassId) (d : Nat) (dS : Int32) (dL : Int32) (dK : Int32) (dM : Int32) (g : Nat) (gl : Nat) (gb : Nat) (gt : Nat) (so : Nat) (s_ : Int32) (r_ : Int32) (oc : Int32) (wh : Int32) : Mg l yX4_isOn wsX4_isOn ({ frames := 1, cells := 0, slots := 0, locals := 20 }) D Y [(d, .inr (3, [.ref g, .int dS, .int dL, .int dK, .int dM])), (g, .inr (6, [.ref gl, .ref gb, .ref gt, .ref so, .int s_, .int r_, .int oc, .int wh]))] [.ref d] 0 0 (fun vv__ ww__ => (vv__ = some (.int (1 : Int32)) ∧ ww__ = [(d, .inr (3, [.ref g, .int dS, .int dL, .int dK, .int dM])), (g, .inr (6, [.ref gl, .ref gb, .ref gt, .ref so, .int s_, .int r_, .int oc, .int wh]))] ∧ (oc.toInt = 3)) ∨ (vv__ = some (.int (0 : Int32)) ∧ ww__ = [(d, .inr (3, [.ref g, .int dS, .int dL, .int dK, .int dM])), (g, .inr (6, [.ref gl, .ref gb, .ref gt, .ref so, .int s_, .int r_, .int oc, .int wh]))] ∧ (oc.toInt ≠ 3))) := by
  refine Mg_of (cc := cX4_isOn) (maxL := 1) (ret := (some .boolean)) (ls0 := [(0, .ref d)]) RX4 (by decide) rfl rfl rfl (Nat.le_of_ble_eq_true rfl) (fun p__ e__ s__ m__ b__ t__ c__ X hr hn => ?_)
  refine V_aload_n X 0 rfl dX4_isOn_0 ?_
  refine V_get (C := RX4) (T := TX4) (N := 5) (ci := 3) (v := .ref g) X in_X4_isOn_X4 0 rfl rfl 0 (by decide) (List.mem_of_getElem? (i := 1) rfl) rfl rfl dX4_isOn_1 ?_
  refine V_callV (C := RX7) (wr := [(d, .inr (3, [.ref g, .int dS, .int dL, .int dK, .int dM]))]) (st := []) X (c_X7_isGoing l D Y g gl gb gt so s_ r_ oc wh) 0 gX4_isOn_X7_isGoing rfl (by decide +kernel) ⟨rfl, rfl⟩ ⟨Nat.le_of_ble_eq_true rfl, Nat.le_of_ble_eq_true rfl⟩ [1] [0] rfl rfl rfl rfl (by decide) (ci := 6) rfl rfl 0 rfl rfl rfl (Nat.le_of_ble_eq_true rfl) ⟨Nat.le_of_ble_eq_true rfl, Nat.le_of_ble_eq_true rfl⟩ dX4_isOn_4 (fun v_4 w_4 h_4 => ?_)
  rcases h_4 with ⟨rfl, rfl, hhy_2⟩ | ⟨rfl, rfl, hhn_3⟩
  · refine V_to (pc' := 7) (ls' := [(0, .ref d)]) (st' := [.int (1 : Int32)]) (ws' := [(d, .inr (3, [.ref g, .int dS, .int dL, .int dK, .int dM])), (g, .inr (6, [.ref gl, .ref gb, .ref gt, .ref so, .int s_, .int r_, .int oc, .int wh]))]) ?_ rfl rfl rfl rfl
    exact V_zret X hr rfl dX4_isOn_7 (Or.inl ⟨rfl, rfl, hhy_2⟩)
  · refine V_to (pc' := 7) (ls' := [(0, .ref d)]) (st' := [.int (0 : Int32)]) (ws' := [(d, .inr (3, [.ref g, .int dS, .int dL, .int dK, .int dM])), (g, .inr (6, [.ref gl, .ref gb, .ref gt, .ref so, .int s_, .int r_, .int oc, .int wh]))]) ?_ rfl rfl rfl rfl
    exact V_zret X hr rfl dX4_isOn_7 (Or.inr (⟨rfl, rfl, hhn_3⟩))

theorem in_X4_tellGoneOn_X4 : ∀ w ∈ wsX40, w ∈ wsX4_tellGoneOn := fun w h => List.mem_cons_of_mem _ (List.mem_append_left _ (List.mem_append_right _ h))
set_option maxHeartbeats 4000000 in
set_option maxRecDepth 100000 in
theorem c_X4_tellGoneOn (l : Launch) (D : va_G) (Y : Nat → ClassId) (d : Nat) (dS : Int32) (dL : Int32) (dK : Int32) (dM : Int32) (g : Nat) (gl : Nat) (gb : Nat) (gt : Nat) (so : Nat) (s_ : Int32) (r_ : Int32) (oc : Int32) (wh : Int32) : Mg l yX4_tellGoneOn wsX4_tellGoneOn ({ frames := 2, cells := 0, slots := 0, locals := 64 }) D Y [(d, .inr (3, [.ref g, .int dS, .int dL, .int dK, .int dM])), (g, .inr (6, [.ref gl, .ref gb, .ref gt, .ref so, .int s_, .int r_, .int oc, .int wh]))] [.ref d] 0 0 (fun vv__ ww__ => (∃ (dK2 : Int32), vv__ = none ∧ ww__ = [(d, .inr (3, [.ref g, .int dS, .int dL, .int dK2, .int dM])), (g, .inr (6, [.ref gl, .ref gb, .ref gt, .ref so, .int s_, .int r_, .int oc, .int wh]))] ∧ (oc.toInt = 1) ∧ (dK2 = dK + 1)) ∨ (∃ (dL2 : Int32), ∃ (dM2 : Int32), vv__ = none ∧ ww__ = [(d, .inr (3, [.ref g, .int dS, .int dL2, .int dK, .int dM2])), (g, .inr (6, [.ref gl, .ref gb, .ref gt, .ref so, .int s_, .int r_, .int oc, .int wh]))] ∧ (oc.toInt = 3) ∧ (dL2 = dL + 1) ∧ (dM2 = if dM < s_ then s_ else dM)) ∨ (vv__ = none ∧ ww__ = [(d, .inr (3, [.ref g, .int dS, .int dL, .int dK, .int dM])), (g, .inr (6, [.ref gl, .ref gb, .ref gt, .ref so, .int s_, .int r_, .int oc, .int wh]))] ∧ (oc.toInt ≠ 1 ∧ oc.toInt ≠ 3))) := by
  refine Mg_of (cc := cX4_tellGoneOn) (maxL := 1) (ret := none) (ls0 := [(0, .ref d)]) RX4 (by decide) rfl rfl rfl (Nat.le_of_ble_eq_true rfl) (fun p__ e__ s__ m__ b__ t__ c__ X hr hn => ?_)
  refine V_aload_n X 0 rfl dX4_tellGoneOn_0 ?_
  refine V_get (C := RX4) (T := TX4) (N := 5) (ci := 3) (v := .ref g) X in_X4_tellGoneOn_X4 0 rfl rfl 0 (by decide) (List.mem_of_getElem? (i := 1) rfl) rfl rfl dX4_tellGoneOn_1 ?_
  refine V_callV (C := RX7) (wr := [(d, .inr (3, [.ref g, .int dS, .int dL, .int dK, .int dM]))]) (st := []) X (c_X7_outcome l D Y g gl gb gt so s_ r_ oc wh) 0 gX4_tellGoneOn_X7_outcome rfl (by decide +kernel) ⟨rfl, rfl⟩ ⟨Nat.le_of_ble_eq_true rfl, Nat.le_of_ble_eq_true rfl⟩ [1] [0] rfl rfl rfl rfl (by decide) (ci := 6) rfl rfl 0 rfl rfl rfl (Nat.le_of_ble_eq_true rfl) ⟨Nat.le_of_ble_eq_true rfl, Nat.le_of_ble_eq_true rfl⟩ dX4_tellGoneOn_4 (fun v_4 w_4 h_4 => ?_)
  obtain ⟨rfl, rfl⟩ := h_4
  refine V_to (pc' := 7) (ls' := [(0, .ref d)]) (st' := [.int oc]) (ws' := [(d, .inr (3, [.ref g, .int dS, .int dL, .int dK, .int dM])), (g, .inr (6, [.ref gl, .ref gb, .ref gt, .ref so, .int s_, .int r_, .int oc, .int wh]))]) ?_ rfl rfl rfl rfl
  refine V_iconst (v := (1 : Int32)) X (by decide) dX4_tellGoneOn_7 ?_
  refine V_icmp_ne X rfl (show (1 : Int32).toInt = 1 from by decide) 21 dX4_tellGoneOn_8 (by decide) (fun c_8 => ?_) (fun c_8 => ?_)
  · refine V_aload_n X 0 rfl dX4_tellGoneOn_21 ?_
    refine V_callV (C := RX4) (wr := []) (st := []) X (c_X4_isOn l D Y d dS dL dK dM g gl gb gt so s_ r_ oc wh) 0 gX4_tellGoneOn_X4_isOn rfl (by decide +kernel) ⟨rfl, rfl⟩ ⟨Nat.le_of_ble_eq_true rfl, Nat.le_of_ble_eq_true rfl⟩ [0, 1] [] rfl rfl rfl rfl (by decide) (ci := 3) rfl rfl 0 rfl rfl rfl (Nat.le_of_ble_eq_true rfl) ⟨Nat.le_of_ble_eq_true rfl, Nat.le_of_ble_eq_true rfl⟩ dX4_tellGoneOn_22 (fun v_22 w_22 h_22 => ?_)
    rcases h_22 with ⟨rfl, rfl, hhy_3⟩ | ⟨rfl, rfl, hhn_4⟩
    · refine V_to (pc' := 25) (ls' := [(0, .ref d)]) (st' := [.int (1 : Int32)]) (ws' := [(d, .inr (3, [.ref g, .int dS, .int dL, .int dK, .int dM])), (g, .inr (6, [.ref gl, .ref gb, .ref gt, .ref so, .int s_, .int r_, .int oc, .int wh]))]) ?_ rfl rfl rfl rfl
      refine V_if_ne X (show (1 : Int32).toInt = 1 from by decide) 29 dX4_tellGoneOn_25 (by decide) (fun _ => ?_) (fun c_25 => absurd c_25 (by decide))
      refine V_aload_n X 0 rfl dX4_tellGoneOn_29 ?_
      refine V_dup X rfl dX4_tellGoneOn_30 ?_
      refine V_get (C := RX4) (T := TX4) (N := 5) (ci := 3) (v := .int dL) X in_X4_tellGoneOn_X4 0 rfl rfl 2 (by decide) (List.mem_of_getElem? (i := 3) rfl) rfl rfl dX4_tellGoneOn_31 ?_
      refine V_iconst (v := (1 : Int32)) X (by decide) dX4_tellGoneOn_34 ?_
      refine V_iadd X dX4_tellGoneOn_35 (fun x_5 ex_5 => ?_)
      refine V_put (C := RX4) (T := TX4) (N := 5) (ci := 3) (v := .int x_5) (ty := tyX4 2) (ws' := [(d, .inr (3, [.ref g, .int dS, .int x_5, .int dK, .int dM])), (g, .inr (6, [.ref gl, .ref gb, .ref gt, .ref so, .int s_, .int r_, .int oc, .int wh]))]) X in_X4_tellGoneOn_X4 0 rfl rfl 2 (by decide) (List.mem_of_getElem? (i := 3) rfl) rfl tyX4 tyX4_ok nmX4 rfl (tyX4_ok 2 (by decide)) rfl rfl (Nat.le_of_ble_eq_true rfl) rfl dX4_tellGoneOn_36 ?_
      refine V_aload_n X 0 rfl dX4_tellGoneOn_39 ?_
      refine V_aload_n X 0 rfl dX4_tellGoneOn_40 ?_
      refine V_get (C := RX4) (T := TX4) (N := 5) (ci := 3) (v := .int dM) X in_X4_tellGoneOn_X4 0 rfl rfl 4 (by decide) (List.mem_of_getElem? (i := 4) rfl) rfl rfl dX4_tellGoneOn_41 ?_
      refine V_aload_n X 0 rfl dX4_tellGoneOn_44 ?_
      refine V_get (C := RX4) (T := TX4) (N := 5) (ci := 3) (v := .ref g) X in_X4_tellGoneOn_X4 0 rfl rfl 0 (by decide) (List.mem_of_getElem? (i := 1) rfl) rfl rfl dX4_tellGoneOn_45 ?_
      refine V_callV (C := RX7) (wr := [(d, .inr (3, [.ref g, .int dS, .int x_5, .int dK, .int dM]))]) (st := [.int dM, .ref d]) X (c_X7_size l D Y g gl gb gt so s_ r_ oc wh) 0 gX4_tellGoneOn_X7_size rfl (by decide +kernel) ⟨rfl, rfl⟩ ⟨Nat.le_of_ble_eq_true rfl, Nat.le_of_ble_eq_true rfl⟩ [1] [0] rfl rfl rfl rfl (by decide) (ci := 6) rfl rfl 0 rfl rfl rfl (Nat.le_of_ble_eq_true rfl) ⟨Nat.le_of_ble_eq_true rfl, Nat.le_of_ble_eq_true rfl⟩ dX4_tellGoneOn_48 (fun v_48 w_48 h_48 => ?_)
      obtain ⟨rfl, rfl⟩ := h_48
      refine V_to (pc' := 51) (ls' := [(0, .ref d)]) (st' := [.int s_, .int dM, .ref d]) (ws' := [(d, .inr (3, [.ref g, .int dS, .int x_5, .int dK, .int dM])), (g, .inr (6, [.ref gl, .ref gb, .ref gt, .ref so, .int s_, .int r_, .int oc, .int wh]))]) ?_ rfl rfl rfl rfl
      refine V_mmax (st := [.ref d]) X (List.mem_of_getElem? (i := 5) rfl) (List.mem_of_getElem? (i := 6) rfl) (List.mem_of_getElem? (i := 7) rfl) (List.mem_of_getElem? (i := 8) rfl) (Nat.le_of_ble_eq_true rfl) (Nat.le_of_ble_eq_true rfl) (Nat.zero_le _) (Nat.zero_le _) rfl rfl dX4_tellGoneOn_51 (fun x_7 ex_7 tx_7 => ?_)
      refine V_put (C := RX4) (T := TX4) (N := 5) (ci := 3) (v := .int x_7) (ty := tyX4 4) (ws' := [(d, .inr (3, [.ref g, .int dS, .int x_5, .int dK, .int x_7])), (g, .inr (6, [.ref gl, .ref gb, .ref gt, .ref so, .int s_, .int r_, .int oc, .int wh]))]) X in_X4_tellGoneOn_X4 0 rfl rfl 4 (by decide) (List.mem_of_getElem? (i := 4) rfl) rfl tyX4 tyX4_ok nmX4 rfl (tyX4_ok 4 (by decide)) rfl rfl (Nat.le_of_ble_eq_true rfl) rfl dX4_tellGoneOn_54 ?_
      exact V_vret X hr dX4_tellGoneOn_57 (Or.inr (Or.inl ⟨x_5, x_7, rfl, rfl, hhy_3, ex_5, ex_7⟩))
    · refine V_to (pc' := 25) (ls' := [(0, .ref d)]) (st' := [.int (0 : Int32)]) (ws' := [(d, .inr (3, [.ref g, .int dS, .int dL, .int dK, .int dM])), (g, .inr (6, [.ref gl, .ref gb, .ref gt, .ref so, .int s_, .int r_, .int oc, .int wh]))]) ?_ rfl rfl rfl rfl
      refine V_if_ne X (show (0 : Int32).toInt = 0 from by decide) 29 dX4_tellGoneOn_25 (by decide) (fun c_25 => absurd c_25 (by decide)) (fun _ => ?_)
      exact V_vret X hr dX4_tellGoneOn_28 (Or.inr (Or.inr (⟨rfl, rfl, (by omega)⟩)))
  · refine V_aload_n X 0 rfl dX4_tellGoneOn_11 ?_
    refine V_dup X rfl dX4_tellGoneOn_12 ?_
    refine V_get (C := RX4) (T := TX4) (N := 5) (ci := 3) (v := .int dK) X in_X4_tellGoneOn_X4 0 rfl rfl 3 (by decide) (List.mem_of_getElem? (i := 2) rfl) rfl rfl dX4_tellGoneOn_13 ?_
    refine V_iconst (v := (1 : Int32)) X (by decide) dX4_tellGoneOn_16 ?_
    refine V_iadd X dX4_tellGoneOn_17 (fun x_8 ex_8 => ?_)
    refine V_put (C := RX4) (T := TX4) (N := 5) (ci := 3) (v := .int x_8) (ty := tyX4 3) (ws' := [(d, .inr (3, [.ref g, .int dS, .int dL, .int x_8, .int dM])), (g, .inr (6, [.ref gl, .ref gb, .ref gt, .ref so, .int s_, .int r_, .int oc, .int wh]))]) X in_X4_tellGoneOn_X4 0 rfl rfl 3 (by decide) (List.mem_of_getElem? (i := 2) rfl) rfl tyX4 tyX4_ok nmX4 rfl (tyX4_ok 3 (by decide)) rfl rfl (Nat.le_of_ble_eq_true rfl) rfl dX4_tellGoneOn_18 ?_
    refine V_aload_n X 0 rfl dX4_tellGoneOn_21 ?_
    refine V_callV (C := RX4) (wr := []) (st := []) X (c_X4_isOn l D Y d dS dL x_8 dM g gl gb gt so s_ r_ oc wh) 0 gX4_tellGoneOn_X4_isOn rfl (by decide +kernel) ⟨rfl, rfl⟩ ⟨Nat.le_of_ble_eq_true rfl, Nat.le_of_ble_eq_true rfl⟩ [0, 1] [] rfl rfl rfl rfl (by decide) (ci := 3) rfl rfl 0 rfl rfl rfl (Nat.le_of_ble_eq_true rfl) ⟨Nat.le_of_ble_eq_true rfl, Nat.le_of_ble_eq_true rfl⟩ dX4_tellGoneOn_22 (fun v_22 w_22 h_22 => ?_)
    rcases h_22 with ⟨rfl, rfl, hhy_10⟩ | ⟨rfl, rfl, hhn_11⟩
    · exfalso; omega
    · refine V_to (pc' := 25) (ls' := [(0, .ref d)]) (st' := [.int (0 : Int32)]) (ws' := [(d, .inr (3, [.ref g, .int dS, .int dL, .int x_8, .int dM])), (g, .inr (6, [.ref gl, .ref gb, .ref gt, .ref so, .int s_, .int r_, .int oc, .int wh]))]) ?_ rfl rfl rfl rfl
      refine V_if_ne X (show (0 : Int32).toInt = 0 from by decide) 29 dX4_tellGoneOn_25 (by decide) (fun c_25 => absurd c_25 (by decide)) (fun _ => ?_)
      exact V_vret X hr dX4_tellGoneOn_28 (Or.inl ⟨x_8, rfl, rfl, c_8, ex_8⟩)

theorem in_X4_tellBegun_X4 : ∀ w ∈ wsX40, w ∈ wsX4_tellBegun := fun w h => List.mem_cons_of_mem _ (List.mem_append_left _ (List.mem_append_right _ h))
set_option maxHeartbeats 4000000 in
set_option maxRecDepth 100000 in
theorem c_X4_tellBegun (l : Launch) (D : va_G) (Y : Nat → ClassId) (d : Nat) (dS : Int32) (dL : Int32) (dK : Int32) (dM : Int32) (g : Nat) (gl : Nat) (gb : Nat) (gt : Nat) (so : Nat) (s_ : Int32) (r_ : Int32) (oc : Int32) (wh : Int32) : Mg l yX4_tellBegun wsX4_tellBegun ({ frames := 3, cells := 0, slots := 0, locals := 84 }) D Y [(d, .inr (3, [.ref g, .int dS, .int dL, .int dK, .int dM])), (g, .inr (6, [.ref gl, .ref gb, .ref gt, .ref so, .int s_, .int r_, .int oc, .int wh]))] [.ref d] 0 0 (fun vv__ ww__ => (∃ (dS2 : Int32), ∃ (dK2 : Int32), vv__ = none ∧ ww__ = [(d, .inr (3, [.ref g, .int dS2, .int dL, .int dK2, .int dM])), (g, .inr (6, [.ref gl, .ref gb, .ref gt, .ref so, .int s_, .int r_, .int oc, .int wh]))] ∧ (oc.toInt = 1) ∧ (dK2 = dK + 1) ∧ (dS2 = dS + 1)) ∨ (∃ (dS2 : Int32), ∃ (dL2 : Int32), ∃ (dM2 : Int32), vv__ = none ∧ ww__ = [(d, .inr (3, [.ref g, .int dS2, .int dL2, .int dK, .int dM2])), (g, .inr (6, [.ref gl, .ref gb, .ref gt, .ref so, .int s_, .int r_, .int oc, .int wh]))] ∧ (oc.toInt = 3) ∧ (dL2 = dL + 1) ∧ (dM2 = if dM < s_ then s_ else dM) ∧ (dS2 = dS + 1)) ∨ (∃ (dS2 : Int32), vv__ = none ∧ ww__ = [(d, .inr (3, [.ref g, .int dS2, .int dL, .int dK, .int dM])), (g, .inr (6, [.ref gl, .ref gb, .ref gt, .ref so, .int s_, .int r_, .int oc, .int wh]))] ∧ (oc.toInt ≠ 1 ∧ oc.toInt ≠ 3) ∧ (dS2 = dS + 1))) := by
  refine Mg_of (cc := cX4_tellBegun) (maxL := 1) (ret := none) (ls0 := [(0, .ref d)]) RX4 (by decide) rfl rfl rfl (Nat.le_of_ble_eq_true rfl) (fun p__ e__ s__ m__ b__ t__ c__ X hr hn => ?_)
  refine V_aload_n X 0 rfl dX4_tellBegun_0 ?_
  refine V_dup X rfl dX4_tellBegun_1 ?_
  refine V_get (C := RX4) (T := TX4) (N := 5) (ci := 3) (v := .int dS) X in_X4_tellBegun_X4 0 rfl rfl 1 (by decide) (List.mem_of_getElem? (i := 1) rfl) rfl rfl dX4_tellBegun_2 ?_
  refine V_iconst (v := (1 : Int32)) X (by decide) dX4_tellBegun_5 ?_
  refine V_iadd X dX4_tellBegun_6 (fun x_1 ex_1 => ?_)
  refine V_put (C := RX4) (T := TX4) (N := 5) (ci := 3) (v := .int x_1) (ty := tyX4 1) (ws' := [(d, .inr (3, [.ref g, .int x_1, .int dL, .int dK, .int dM])), (g, .inr (6, [.ref gl, .ref gb, .ref gt, .ref so, .int s_, .int r_, .int oc, .int wh]))]) X in_X4_tellBegun_X4 0 rfl rfl 1 (by decide) (List.mem_of_getElem? (i := 1) rfl) rfl tyX4 tyX4_ok nmX4 rfl (tyX4_ok 1 (by decide)) rfl rfl (Nat.le_of_ble_eq_true rfl) rfl dX4_tellBegun_7 ?_
  refine V_aload_n X 0 rfl dX4_tellBegun_10 ?_
  refine V_callV (C := RX4) (wr := []) (st := []) X (c_X4_tellGoneOn l D Y d x_1 dL dK dM g gl gb gt so s_ r_ oc wh) 0 gX4_tellBegun_X4_tellGoneOn rfl (by decide +kernel) ⟨rfl, rfl⟩ ⟨Nat.le_of_ble_eq_true rfl, Nat.le_of_ble_eq_true rfl⟩ [0, 1] [] rfl rfl rfl rfl (by decide) (ci := 3) rfl rfl 0 rfl rfl rfl (Nat.le_of_ble_eq_true rfl) ⟨Nat.le_of_ble_eq_true rfl, Nat.le_of_ble_eq_true rfl⟩ dX4_tellBegun_11 (fun v_11 w_11 h_11 => ?_)
  rcases h_11 with ⟨dK2_3, rfl, rfl, hh1_4, hhK_5⟩ | ⟨dL2_6, dM2_7, rfl, rfl, hh3_8, hhL_9, hhM_10⟩ | ⟨rfl, rfl, hh0_11⟩
  · refine V_to (pc' := 14) (ls' := [(0, .ref d)]) (st' := []) (ws' := [(d, .inr (3, [.ref g, .int x_1, .int dL, .int dK2_3, .int dM])), (g, .inr (6, [.ref gl, .ref gb, .ref gt, .ref so, .int s_, .int r_, .int oc, .int wh]))]) ?_ rfl rfl rfl rfl
    exact V_vret X hr dX4_tellBegun_14 (Or.inl ⟨x_1, dK2_3, rfl, rfl, hh1_4, hhK_5, ex_1⟩)
  · refine V_to (pc' := 14) (ls' := [(0, .ref d)]) (st' := []) (ws' := [(d, .inr (3, [.ref g, .int x_1, .int dL2_6, .int dK, .int dM2_7])), (g, .inr (6, [.ref gl, .ref gb, .ref gt, .ref so, .int s_, .int r_, .int oc, .int wh]))]) ?_ rfl rfl rfl rfl
    exact V_vret X hr dX4_tellBegun_14 (Or.inr (Or.inl ⟨x_1, dL2_6, dM2_7, rfl, rfl, hh3_8, hhL_9, hhM_10, ex_1⟩))
  · refine V_to (pc' := 14) (ls' := [(0, .ref d)]) (st' := []) (ws' := [(d, .inr (3, [.ref g, .int x_1, .int dL, .int dK, .int dM])), (g, .inr (6, [.ref gl, .ref gb, .ref gt, .ref so, .int s_, .int r_, .int oc, .int wh]))]) ?_ rfl rfl rfl rfl
    exact V_vret X hr dX4_tellBegun_14 (Or.inr (Or.inr (⟨x_1, rfl, rfl, hh0_11, ex_1⟩)))

theorem in_X2_undoable_X2 : ∀ w ∈ wsX20, w ∈ wsX2_undoable := fun w h => List.mem_cons_of_mem _ (List.mem_append_right _ h)
set_option maxHeartbeats 4000000 in
set_option maxRecDepth 100000 in
theorem c_X2_undoable (l : Launch) (D : va_G) (Y : Nat → ClassId) (cg : Nat) (c1 : Nat) (c2 : Nat) (c3 : Nat) (c4 : Nat) (dn : Int32) (kp : Int32) (d_ : Nat) (k_ : Nat) (tdn : dn.toInt = ((d_ : Nat) : Int)) (tkp : kp.toInt = ((k_ : Nat) : Int)) (hdk : d_ ≤ k_) (hk40 : k_ ≤ 40) : Mg l yX2_undoable wsX2_undoable ({ frames := 0, cells := 0, slots := 0, locals := 0 }) D Y [(cg, .inr (1, [.ref c1, .ref c2, .ref c3, .ref c4, .int dn, .int kp]))] [.ref cg] 0 0 (fun vv__ ww__ => (∃ (r : Int32), vv__ = some (.int r) ∧ ww__ = [(cg, .inr (1, [.ref c1, .ref c2, .ref c3, .ref c4, .int dn, .int kp]))] ∧ (r.toInt = ((d_ : Nat) : Int)) ∧ (r = dn))) := by
  refine Mg_of (cc := cX2_undoable) (maxL := 1) (ret := (some .int)) (ls0 := [(0, .ref cg)]) RX2 (by decide) rfl rfl rfl (Nat.le_of_ble_eq_true rfl) (fun p__ e__ s__ m__ b__ t__ c__ X hr hn => ?_)
  refine V_aload_n X 0 rfl dX2_undoable_0 ?_
  refine V_get (C := RX2) (T := TX2) (N := 6) (ci := 1) (v := .int dn) X in_X2_undoable_X2 0 rfl rfl 4 (by decide) (List.mem_of_getElem? (i := 1) rfl) rfl rfl dX2_undoable_1 ?_
  exact V_iret X hr dX2_undoable_4 (⟨dn, rfl, rfl, tdn, rfl⟩)

theorem in_X2_redoable_X2 : ∀ w ∈ wsX20, w ∈ wsX2_redoable := fun w h => List.mem_cons_of_mem _ (List.mem_append_right _ h)
set_option maxHeartbeats 4000000 in
set_option maxRecDepth 100000 in
theorem c_X2_redoable (l : Launch) (D : va_G) (Y : Nat → ClassId) (cg : Nat) (c1 : Nat) (c2 : Nat) (c3 : Nat) (c4 : Nat) (dn : Int32) (kp : Int32) (d_ : Nat) (k_ : Nat) (tdn : dn.toInt = ((d_ : Nat) : Int)) (tkp : kp.toInt = ((k_ : Nat) : Int)) (hdk : d_ ≤ k_) (hk40 : k_ ≤ 40) : Mg l yX2_redoable wsX2_redoable ({ frames := 0, cells := 0, slots := 0, locals := 0 }) D Y [(cg, .inr (1, [.ref c1, .ref c2, .ref c3, .ref c4, .int dn, .int kp]))] [.ref cg] 0 0 (fun vv__ ww__ => (∃ (r : Int32), vv__ = some (.int r) ∧ ww__ = [(cg, .inr (1, [.ref c1, .ref c2, .ref c3, .ref c4, .int dn, .int kp]))] ∧ (r.toInt = ((k_ - d_ : Nat) : Int)))) := by
  refine Mg_of (cc := cX2_redoable) (maxL := 1) (ret := (some .int)) (ls0 := [(0, .ref cg)]) RX2 (by decide) rfl rfl rfl (Nat.le_of_ble_eq_true rfl) (fun p__ e__ s__ m__ b__ t__ c__ X hr hn => ?_)
  refine V_aload_n X 0 rfl dX2_redoable_0 ?_
  refine V_get (C := RX2) (T := TX2) (N := 6) (ci := 1) (v := .int kp) X in_X2_redoable_X2 0 rfl rfl 5 (by decide) (List.mem_of_getElem? (i := 1) rfl) rfl rfl dX2_redoable_1 ?_
  refine V_aload_n X 0 rfl dX2_redoable_4 ?_
  refine V_get (C := RX2) (T := TX2) (N := 6) (ci := 1) (v := .int dn) X in_X2_redoable_X2 0 rfl rfl 4 (by decide) (List.mem_of_getElem? (i := 2) rfl) rfl rfl dX2_redoable_5 ?_
  refine V_isubZ X tkp tdn (by omega) (by omega) dX2_redoable_8 (fun x_1 ex_1 tx_1 => ?_)
  exact V_iret X hr dX2_redoable_9 (⟨x_1, rfl, rfl, (by have h9 : x_1.toInt = x_1.toInt := rfl; omega)⟩)

theorem in_X2_stepBack_X2 : ∀ w ∈ wsX20, w ∈ wsX2_stepBack := fun w h => List.mem_cons_of_mem _ (List.mem_append_right _ h)
set_option maxHeartbeats 4000000 in
set_option maxRecDepth 100000 in
theorem c_X2_stepBack (l : Launch) (D : va_G) (Y : Nat → ClassId) (cg : Nat) (c1 : Nat) (c2 : Nat) (c3 : Nat) (c4 : Nat) (dn : Int32) (kp : Int32) (d_ : Nat) (k_ : Nat) (tdn : dn.toInt = ((d_ : Nat) : Int)) (tkp : kp.toInt = ((k_ : Nat) : Int)) (hdk : d_ ≤ k_) (hk40 : k_ ≤ 40) (h0 : 0 < d_) : Mg l yX2_stepBack wsX2_stepBack ({ frames := 0, cells := 0, slots := 0, locals := 0 }) D Y [(cg, .inr (1, [.ref c1, .ref c2, .ref c3, .ref c4, .int dn, .int kp]))] [.ref cg] 0 0 (fun vv__ ww__ => (∃ (r : Int32), ∃ (dn2 : Int32), vv__ = some (.int r) ∧ ww__ = [(cg, .inr (1, [.ref c1, .ref c2, .ref c3, .ref c4, .int dn2, .int kp]))] ∧ (r.toInt = ((d_ - 1 : Nat) : Int)) ∧ (dn2.toInt = ((d_ - 1 : Nat) : Int)))) := by
  refine Mg_of (cc := cX2_stepBack) (maxL := 1) (ret := (some .int)) (ls0 := [(0, .ref cg)]) RX2 (by decide) rfl rfl rfl (Nat.le_of_ble_eq_true rfl) (fun p__ e__ s__ m__ b__ t__ c__ X hr hn => ?_)
  refine V_aload_n X 0 rfl dX2_stepBack_0 ?_
  refine V_get (C := RX2) (T := TX2) (N := 6) (ci := 1) (v := .int dn) X in_X2_stepBack_X2 0 rfl rfl 4 (by decide) (List.mem_of_getElem? (i := 1) rfl) rfl rfl dX2_stepBack_1 ?_
  refine V_if_le X tdn 17 dX2_stepBack_4 (by decide) (fun c_4 => False.elim (by omega)) (fun c_4 => ?_)
  refine V_aload_n X 0 rfl dX2_stepBack_7 ?_
  refine V_dup X rfl dX2_stepBack_8 ?_
  refine V_get (C := RX2) (T := TX2) (N := 6) (ci := 1) (v := .int dn) X in_X2_stepBack_X2 0 rfl rfl 4 (by decide) (List.mem_of_getElem? (i := 1) rfl) rfl rfl dX2_stepBack_9 ?_
  refine V_iconst (v := (1 : Int32)) X (by decide) dX2_stepBack_12 ?_
  refine V_isubZ X tdn (show (1 : Int32).toInt = 1 from by decide) (by omega) (by omega) dX2_stepBack_13 (fun x_1 ex_1 tx_1 => ?_)
  have tx_1 : x_1.toInt = (((d_ - 1) : Nat) : Int) := by omega
  refine V_put (C := RX2) (T := TX2) (N := 6) (ci := 1) (v := .int x_1) (ty := tyX2 4) (ws' := [(cg, .inr (1, [.ref c1, .ref c2, .ref c3, .ref c4, .int x_1, .int kp]))]) X in_X2_stepBack_X2 0 rfl rfl 4 (by decide) (List.mem_of_getElem? (i := 1) rfl) rfl tyX2 tyX2_ok nmX2 rfl (tyX2_ok 4 (by decide)) rfl rfl (Nat.le_of_ble_eq_true rfl) rfl dX2_stepBack_14 ?_
  refine V_aload_n X 0 rfl dX2_stepBack_17 ?_
  refine V_get (C := RX2) (T := TX2) (N := 6) (ci := 1) (v := .int x_1) X in_X2_stepBack_X2 0 rfl rfl 4 (by decide) (List.mem_of_getElem? (i := 1) rfl) rfl rfl dX2_stepBack_18 ?_
  exact V_iret X hr dX2_stepBack_21 (⟨x_1, x_1, rfl, rfl, (by have h9 : x_1.toInt = (((d_ - 1) : Nat) : Int) := tx_1; omega), (by omega)⟩)

theorem in_X2_stepAhead_X2 : ∀ w ∈ wsX20, w ∈ wsX2_stepAhead := fun w h => List.mem_cons_of_mem _ (List.mem_append_right _ h)
set_option maxHeartbeats 4000000 in
set_option maxRecDepth 100000 in
theorem c_X2_stepAhead (l : Launch) (D : va_G) (Y : Nat → ClassId) (cg : Nat) (c1 : Nat) (c2 : Nat) (c3 : Nat) (c4 : Nat) (dn : Int32) (kp : Int32) (d_ : Nat) (k_ : Nat) (tdn : dn.toInt = ((d_ : Nat) : Int)) (tkp : kp.toInt = ((k_ : Nat) : Int)) (hdk : d_ ≤ k_) (hk40 : k_ ≤ 40) (h0 : d_ < k_) : Mg l yX2_stepAhead wsX2_stepAhead ({ frames := 0, cells := 0, slots := 0, locals := 0 }) D Y [(cg, .inr (1, [.ref c1, .ref c2, .ref c3, .ref c4, .int dn, .int kp]))] [.ref cg] 0 0 (fun vv__ ww__ => (∃ (r : Int32), ∃ (dn2 : Int32), vv__ = some (.int r) ∧ ww__ = [(cg, .inr (1, [.ref c1, .ref c2, .ref c3, .ref c4, .int dn2, .int kp]))] ∧ (r.toInt = ((d_ : Nat) : Int)) ∧ (dn2.toInt = ((d_ + 1 : Nat) : Int)))) := by
  refine Mg_of (cc := cX2_stepAhead) (maxL := 1) (ret := (some .int)) (ls0 := [(0, .ref cg)]) RX2 (by decide) rfl rfl rfl (Nat.le_of_ble_eq_true rfl) (fun p__ e__ s__ m__ b__ t__ c__ X hr hn => ?_)
  refine V_aload_n X 0 rfl dX2_stepAhead_0 ?_
  refine V_get (C := RX2) (T := TX2) (N := 6) (ci := 1) (v := .int dn) X in_X2_stepAhead_X2 0 rfl rfl 4 (by decide) (List.mem_of_getElem? (i := 1) rfl) rfl rfl dX2_stepAhead_1 ?_
  refine V_aload_n X 0 rfl dX2_stepAhead_4 ?_
  refine V_get (C := RX2) (T := TX2) (N := 6) (ci := 1) (v := .int kp) X in_X2_stepAhead_X2 0 rfl rfl 5 (by decide) (List.mem_of_getElem? (i := 2) rfl) rfl rfl dX2_stepAhead_5 ?_
  refine V_icmp_ge X tdn tkp 21 dX2_stepAhead_8 (by decide) (fun c_8 => False.elim (by omega)) (fun c_8 => ?_)
  refine V_aload_n X 0 rfl dX2_stepAhead_11 ?_
  refine V_dup X rfl dX2_stepAhead_12 ?_
  refine V_get (C := RX2) (T := TX2) (N := 6) (ci := 1) (v := .int dn) X in_X2_stepAhead_X2 0 rfl rfl 4 (by decide) (List.mem_of_getElem? (i := 1) rfl) rfl rfl dX2_stepAhead_13 ?_
  refine V_iconst (v := (1 : Int32)) X (by decide) dX2_stepAhead_16 ?_
  refine V_iaddZ X tdn (show (1 : Int32).toInt = 1 from by decide) (by omega) (by omega) dX2_stepAhead_17 (fun x_1 ex_1 tx_1 => ?_)
  have tx_1 : x_1.toInt = (((d_ + 1) : Nat) : Int) := by omega
  refine V_put (C := RX2) (T := TX2) (N := 6) (ci := 1) (v := .int x_1) (ty := tyX2 4) (ws' := [(cg, .inr (1, [.ref c1, .ref c2, .ref c3, .ref c4, .int x_1, .int kp]))]) X in_X2_stepAhead_X2 0 rfl rfl 4 (by decide) (List.mem_of_getElem? (i := 1) rfl) rfl tyX2 tyX2_ok nmX2 rfl (tyX2_ok 4 (by decide)) rfl rfl (Nat.le_of_ble_eq_true rfl) rfl dX2_stepAhead_18 ?_
  refine V_aload_n X 0 rfl dX2_stepAhead_21 ?_
  refine V_get (C := RX2) (T := TX2) (N := 6) (ci := 1) (v := .int x_1) X in_X2_stepAhead_X2 0 rfl rfl 4 (by decide) (List.mem_of_getElem? (i := 1) rfl) rfl rfl dX2_stepAhead_22 ?_
  refine V_iconst (v := (1 : Int32)) X (by decide) dX2_stepAhead_25 ?_
  refine V_isubZ X tx_1 (show (1 : Int32).toInt = 1 from by decide) (by omega) (by omega) dX2_stepAhead_26 (fun x_2 ex_2 tx_2 => ?_)
  have tx_2 : x_2.toInt = ((d_ : Nat) : Int) := by omega
  exact V_iret X hr dX2_stepAhead_27 (⟨x_2, x_1, rfl, rfl, (by have h9 : x_2.toInt = ((d_ : Nat) : Int) := tx_2; omega), (by omega)⟩)

theorem in_X2_number_X2 : ∀ w ∈ wsX20, w ∈ wsX2_number := fun w h => List.mem_cons_of_mem _ (List.mem_append_right _ h)
set_option maxHeartbeats 4000000 in
set_option maxRecDepth 100000 in
theorem c_X2_number (l : Launch) (D : va_G) (Y : Nat → ClassId) (cg : Nat) (c1 : Nat) (c2 : Nat) (c3 : Nat) (c4 : Nat) (dn : Int32) (kp : Int32) (x : Int32) (j : Nat) (f1 : Nat → Int32) (tx : x.toInt = ((j : Nat) : Int)) (hj : j < 40) : Mg l yX2_number wsX2_number ({ frames := 1, cells := 0, slots := 0, locals := 21 }) D Y [(cg, .inr (1, [.ref c1, .ref c2, .ref c3, .ref c4, .int dn, .int kp])), (c1, .inl (Y 0, 40, .inl f1))] [.ref cg, .int x] 0 0 (fun vv__ ww__ => (vv__ = some (.int (f1 j)) ∧ ww__ = [(cg, .inr (1, [.ref c1, .ref c2, .ref c3, .ref c4, .int dn, .int kp])), (c1, .inl (Y 0, 40, .inl f1))])) := by
  refine Mg_of (cc := cX2_number) (maxL := 2) (ret := (some .int)) (ls0 := [(0, .ref cg), (1, .int x)]) RX2 (by decide) rfl rfl rfl (Nat.le_of_ble_eq_true rfl) (fun p__ e__ s__ m__ b__ t__ c__ X hr hn => ?_)
  refine V_aload_n X 0 rfl dX2_number_0 ?_
  refine V_get (C := RX2) (T := TX2) (N := 6) (ci := 1) (v := .ref c1) X in_X2_number_X2 0 rfl rfl 0 (by decide) (List.mem_of_getElem? (i := 1) rfl) rfl rfl dX2_number_1 ?_
  refine V_iload_n X 1 rfl dX2_number_4 ?_
  refine V_callS (wr := [(cg, .inr (1, [.ref c1, .ref c2, .ref c3, .ref c4, .int dn, .int kp]))]) (st := []) X (c_X1_at l D Y c1 x j 40 f1 tx hj (by omega)) 2 gX2_number_X1_at rfl (by decide +kernel) ⟨rfl, rfl⟩ ⟨Nat.le_of_ble_eq_true rfl, Nat.le_of_ble_eq_true rfl⟩ [1] [0] rfl rfl rfl rfl (by decide) rfl rfl (Nat.le_of_ble_eq_true rfl) ⟨Nat.le_of_ble_eq_true rfl, Nat.le_of_ble_eq_true rfl⟩ dX2_number_5 (fun v_5 w_5 h_5 => ?_)
  obtain ⟨rfl, rfl⟩ := h_5
  refine V_to (pc' := 8) (ls' := [(0, .ref cg), (1, .int x)]) (st' := [.int (f1 j)]) (ws' := [(cg, .inr (1, [.ref c1, .ref c2, .ref c3, .ref c4, .int dn, .int kp])), (c1, .inl (Y 0, 40, .inl f1))]) ?_ rfl rfl rfl rfl
  exact V_iret X hr dX2_number_8 (⟨rfl, rfl⟩)

theorem in_X2_what_X2 : ∀ w ∈ wsX20, w ∈ wsX2_what := fun w h => List.mem_cons_of_mem _ (List.mem_append_right _ h)
set_option maxHeartbeats 4000000 in
set_option maxRecDepth 100000 in
theorem c_X2_what (l : Launch) (D : va_G) (Y : Nat → ClassId) (cg : Nat) (c1 : Nat) (c2 : Nat) (c3 : Nat) (c4 : Nat) (dn : Int32) (kp : Int32) (x : Int32) (j : Nat) (f2 : Nat → Int32) (tx : x.toInt = ((j : Nat) : Int)) (hj : j < 40) : Mg l yX2_what wsX2_what ({ frames := 1, cells := 0, slots := 0, locals := 21 }) D Y [(cg, .inr (1, [.ref c1, .ref c2, .ref c3, .ref c4, .int dn, .int kp])), (c2, .inl (Y 0, 40, .inl f2))] [.ref cg, .int x] 0 0 (fun vv__ ww__ => (vv__ = some (.int (f2 j)) ∧ ww__ = [(cg, .inr (1, [.ref c1, .ref c2, .ref c3, .ref c4, .int dn, .int kp])), (c2, .inl (Y 0, 40, .inl f2))])) := by
  refine Mg_of (cc := cX2_what) (maxL := 2) (ret := (some .int)) (ls0 := [(0, .ref cg), (1, .int x)]) RX2 (by decide) rfl rfl rfl (Nat.le_of_ble_eq_true rfl) (fun p__ e__ s__ m__ b__ t__ c__ X hr hn => ?_)
  refine V_aload_n X 0 rfl dX2_what_0 ?_
  refine V_get (C := RX2) (T := TX2) (N := 6) (ci := 1) (v := .ref c2) X in_X2_what_X2 0 rfl rfl 1 (by decide) (List.mem_of_getElem? (i := 1) rfl) rfl rfl dX2_what_1 ?_
  refine V_iload_n X 1 rfl dX2_what_4 ?_
  refine V_callS (wr := [(cg, .inr (1, [.ref c1, .ref c2, .ref c3, .ref c4, .int dn, .int kp]))]) (st := []) X (c_X1_at l D Y c2 x j 40 f2 tx hj (by omega)) 2 gX2_what_X1_at rfl (by decide +kernel) ⟨rfl, rfl⟩ ⟨Nat.le_of_ble_eq_true rfl, Nat.le_of_ble_eq_true rfl⟩ [1] [0] rfl rfl rfl rfl (by decide) rfl rfl (Nat.le_of_ble_eq_true rfl) ⟨Nat.le_of_ble_eq_true rfl, Nat.le_of_ble_eq_true rfl⟩ dX2_what_5 (fun v_5 w_5 h_5 => ?_)
  obtain ⟨rfl, rfl⟩ := h_5
  refine V_to (pc' := 8) (ls' := [(0, .ref cg), (1, .int x)]) (st' := [.int (f2 j)]) (ws' := [(cg, .inr (1, [.ref c1, .ref c2, .ref c3, .ref c4, .int dn, .int kp])), (c2, .inl (Y 0, 40, .inl f2))]) ?_ rfl rfl rfl rfl
  exact V_iret X hr dX2_what_8 (⟨rfl, rfl⟩)

theorem in_X2_before_X2 : ∀ w ∈ wsX20, w ∈ wsX2_before := fun w h => List.mem_cons_of_mem _ (List.mem_append_right _ h)
set_option maxHeartbeats 4000000 in
set_option maxRecDepth 100000 in
theorem c_X2_before (l : Launch) (D : va_G) (Y : Nat → ClassId) (cg : Nat) (c1 : Nat) (c2 : Nat) (c3 : Nat) (c4 : Nat) (dn : Int32) (kp : Int32) (x : Int32) (j : Nat) (f3 : Nat → Int32) (tx : x.toInt = ((j : Nat) : Int)) (hj : j < 40) : Mg l yX2_before wsX2_before ({ frames := 1, cells := 0, slots := 0, locals := 21 }) D Y [(cg, .inr (1, [.ref c1, .ref c2, .ref c3, .ref c4, .int dn, .int kp])), (c3, .inl (Y 0, 40, .inl f3))] [.ref cg, .int x] 0 0 (fun vv__ ww__ => (vv__ = some (.int (f3 j)) ∧ ww__ = [(cg, .inr (1, [.ref c1, .ref c2, .ref c3, .ref c4, .int dn, .int kp])), (c3, .inl (Y 0, 40, .inl f3))])) := by
  refine Mg_of (cc := cX2_before) (maxL := 2) (ret := (some .int)) (ls0 := [(0, .ref cg), (1, .int x)]) RX2 (by decide) rfl rfl rfl (Nat.le_of_ble_eq_true rfl) (fun p__ e__ s__ m__ b__ t__ c__ X hr hn => ?_)
  refine V_aload_n X 0 rfl dX2_before_0 ?_
  refine V_get (C := RX2) (T := TX2) (N := 6) (ci := 1) (v := .ref c3) X in_X2_before_X2 0 rfl rfl 2 (by decide) (List.mem_of_getElem? (i := 1) rfl) rfl rfl dX2_before_1 ?_
  refine V_iload_n X 1 rfl dX2_before_4 ?_
  refine V_callS (wr := [(cg, .inr (1, [.ref c1, .ref c2, .ref c3, .ref c4, .int dn, .int kp]))]) (st := []) X (c_X1_at l D Y c3 x j 40 f3 tx hj (by omega)) 2 gX2_before_X1_at rfl (by decide +kernel) ⟨rfl, rfl⟩ ⟨Nat.le_of_ble_eq_true rfl, Nat.le_of_ble_eq_true rfl⟩ [1] [0] rfl rfl rfl rfl (by decide) rfl rfl (Nat.le_of_ble_eq_true rfl) ⟨Nat.le_of_ble_eq_true rfl, Nat.le_of_ble_eq_true rfl⟩ dX2_before_5 (fun v_5 w_5 h_5 => ?_)
  obtain ⟨rfl, rfl⟩ := h_5
  refine V_to (pc' := 8) (ls' := [(0, .ref cg), (1, .int x)]) (st' := [.int (f3 j)]) (ws' := [(cg, .inr (1, [.ref c1, .ref c2, .ref c3, .ref c4, .int dn, .int kp])), (c3, .inl (Y 0, 40, .inl f3))]) ?_ rfl rfl rfl rfl
  exact V_iret X hr dX2_before_8 (⟨rfl, rfl⟩)

theorem in_X2_after_X2 : ∀ w ∈ wsX20, w ∈ wsX2_after := fun w h => List.mem_cons_of_mem _ (List.mem_append_right _ h)
set_option maxHeartbeats 4000000 in
set_option maxRecDepth 100000 in
theorem c_X2_after (l : Launch) (D : va_G) (Y : Nat → ClassId) (cg : Nat) (c1 : Nat) (c2 : Nat) (c3 : Nat) (c4 : Nat) (dn : Int32) (kp : Int32) (x : Int32) (j : Nat) (f4 : Nat → Int32) (tx : x.toInt = ((j : Nat) : Int)) (hj : j < 40) : Mg l yX2_after wsX2_after ({ frames := 1, cells := 0, slots := 0, locals := 21 }) D Y [(cg, .inr (1, [.ref c1, .ref c2, .ref c3, .ref c4, .int dn, .int kp])), (c4, .inl (Y 0, 40, .inl f4))] [.ref cg, .int x] 0 0 (fun vv__ ww__ => (vv__ = some (.int (f4 j)) ∧ ww__ = [(cg, .inr (1, [.ref c1, .ref c2, .ref c3, .ref c4, .int dn, .int kp])), (c4, .inl (Y 0, 40, .inl f4))])) := by
  refine Mg_of (cc := cX2_after) (maxL := 2) (ret := (some .int)) (ls0 := [(0, .ref cg), (1, .int x)]) RX2 (by decide) rfl rfl rfl (Nat.le_of_ble_eq_true rfl) (fun p__ e__ s__ m__ b__ t__ c__ X hr hn => ?_)
  refine V_aload_n X 0 rfl dX2_after_0 ?_
  refine V_get (C := RX2) (T := TX2) (N := 6) (ci := 1) (v := .ref c4) X in_X2_after_X2 0 rfl rfl 3 (by decide) (List.mem_of_getElem? (i := 1) rfl) rfl rfl dX2_after_1 ?_
  refine V_iload_n X 1 rfl dX2_after_4 ?_
  refine V_callS (wr := [(cg, .inr (1, [.ref c1, .ref c2, .ref c3, .ref c4, .int dn, .int kp]))]) (st := []) X (c_X1_at l D Y c4 x j 40 f4 tx hj (by omega)) 2 gX2_after_X1_at rfl (by decide +kernel) ⟨rfl, rfl⟩ ⟨Nat.le_of_ble_eq_true rfl, Nat.le_of_ble_eq_true rfl⟩ [1] [0] rfl rfl rfl rfl (by decide) rfl rfl (Nat.le_of_ble_eq_true rfl) ⟨Nat.le_of_ble_eq_true rfl, Nat.le_of_ble_eq_true rfl⟩ dX2_after_5 (fun v_5 w_5 h_5 => ?_)
  obtain ⟨rfl, rfl⟩ := h_5
  refine V_to (pc' := 8) (ls' := [(0, .ref cg), (1, .int x)]) (st' := [.int (f4 j)]) (ws' := [(cg, .inr (1, [.ref c1, .ref c2, .ref c3, .ref c4, .int dn, .int kp])), (c4, .inl (Y 0, 40, .inl f4))]) ?_ rfl rfl rfl rfl
  exact V_iret X hr dX2_after_8 (⟨rfl, rfl⟩)

theorem in_X2_forgetFirst_X2 : ∀ w ∈ wsX20, w ∈ wsX2_forgetFirst := fun w h => List.mem_cons_of_mem _ (List.mem_append_right _ h)
set_option maxHeartbeats 4000000 in
set_option maxRecDepth 100000 in
theorem c_X2_forgetFirst (l : Launch) (D : va_G) (Y : Nat → ClassId) (cg : Nat) (c1 : Nat) (c2 : Nat) (c3 : Nat) (c4 : Nat) (dn : Int32) (kp : Int32) (f1 : Nat → Int32) (f2 : Nat → Int32) (f3 : Nat → Int32) (f4 : Nat → Int32) : Mg l yX2_forgetFirst wsX2_forgetFirst ({ frames := 1, cells := 0, slots := 0, locals := 64 }) D Y [(cg, .inr (1, [.ref c1, .ref c2, .ref c3, .ref c4, .int dn, .int kp])), (c1, .inl (Y 0, 40, .inl f1)), (c2, .inl (Y 0, 40, .inl f2)), (c3, .inl (Y 0, 40, .inl f3)), (c4, .inl (Y 0, 40, .inl f4))] [.ref cg] 0 0 (fun vv__ ww__ => (vv__ = none ∧ ww__ = [(cg, .inr (1, [.ref c1, .ref c2, .ref c3, .ref c4, .int (39 : Int32), .int kp])), (c1, .inl (Y 0, 40, .inl (va_cpy f1 f1 1 0 39))), (c2, .inl (Y 0, 40, .inl (va_cpy f2 f2 1 0 39))), (c3, .inl (Y 0, 40, .inl (va_cpy f3 f3 1 0 39))), (c4, .inl (Y 0, 40, .inl (va_cpy f4 f4 1 0 39)))])) := by
  refine Mg_of (cc := cX2_forgetFirst) (maxL := 1) (ret := none) (ls0 := [(0, .ref cg)]) RX2 (by decide) rfl rfl rfl (Nat.le_of_ble_eq_true rfl) (fun p__ e__ s__ m__ b__ t__ c__ X hr hn => ?_)
  refine V_aload_n X 0 rfl dX2_forgetFirst_0 ?_
  refine V_get (C := RX2) (T := TX2) (N := 6) (ci := 1) (v := .ref c1) X in_X2_forgetFirst_X2 0 rfl rfl 0 (by decide) (List.mem_of_getElem? (i := 1) rfl) rfl rfl dX2_forgetFirst_1 ?_
  refine V_iconst (v := (1 : Int32)) X (by decide) dX2_forgetFirst_4 ?_
  refine V_aload_n X 0 rfl dX2_forgetFirst_5 ?_
  refine V_get (C := RX2) (T := TX2) (N := 6) (ci := 1) (v := .ref c1) X in_X2_forgetFirst_X2 0 rfl rfl 0 (by decide) (List.mem_of_getElem? (i := 1) rfl) rfl rfl dX2_forgetFirst_6 ?_
  refine V_iconst (v := (0 : Int32)) X (by decide) dX2_forgetFirst_9 ?_
  refine V_bipush (v := (39 : Int32)) X (by decide) dX2_forgetFirst_10 ?_
  refine V_copyi (st := []) (ws' := [(cg, .inr (1, [.ref c1, .ref c2, .ref c3, .ref c4, .int dn, .int kp])), (c1, .inl (Y 0, 40, .inl (va_cpy f1 f1 1 0 39))), (c2, .inl (Y 0, 40, .inl f2)), (c3, .inl (Y 0, 40, .inl f3)), (c4, .inl (Y 0, 40, .inl f4))]) X (List.mem_of_getElem? (i := 2) rfl) (List.mem_of_getElem? (i := 3) rfl) (List.mem_of_getElem? (i := 4) rfl) (List.mem_of_getElem? (i := 5) rfl) 1 1 1 0 39 rfl rfl (show (1 : Int32).toInt = ((1 : Nat) : Int) from (show (1 : Int32).toInt = 1 from by decide)) (show (0 : Int32).toInt = ((0 : Nat) : Int) from (show (0 : Int32).toInt = 0 from by decide)) (show (39 : Int32).toInt = ((39 : Nat) : Int) from (show (39 : Int32).toInt = 39 from by decide)) (by omega) (by omega) rfl (Nat.le_of_ble_eq_true rfl) (by decide +kernel) dX2_forgetFirst_12 ?_
  refine V_aload_n X 0 rfl dX2_forgetFirst_15 ?_
  refine V_get (C := RX2) (T := TX2) (N := 6) (ci := 1) (v := .ref c2) X in_X2_forgetFirst_X2 0 rfl rfl 1 (by decide) (List.mem_of_getElem? (i := 6) rfl) rfl rfl dX2_forgetFirst_16 ?_
  refine V_iconst (v := (1 : Int32)) X (by decide) dX2_forgetFirst_19 ?_
  refine V_aload_n X 0 rfl dX2_forgetFirst_20 ?_
  refine V_get (C := RX2) (T := TX2) (N := 6) (ci := 1) (v := .ref c2) X in_X2_forgetFirst_X2 0 rfl rfl 1 (by decide) (List.mem_of_getElem? (i := 6) rfl) rfl rfl dX2_forgetFirst_21 ?_
  refine V_iconst (v := (0 : Int32)) X (by decide) dX2_forgetFirst_24 ?_
  refine V_bipush (v := (39 : Int32)) X (by decide) dX2_forgetFirst_25 ?_
  refine V_copyi (st := []) (ws' := [(cg, .inr (1, [.ref c1, .ref c2, .ref c3, .ref c4, .int dn, .int kp])), (c1, .inl (Y 0, 40, .inl (va_cpy f1 f1 1 0 39))), (c2, .inl (Y 0, 40, .inl (va_cpy f2 f2 1 0 39))), (c3, .inl (Y 0, 40, .inl f3)), (c4, .inl (Y 0, 40, .inl f4))]) X (List.mem_of_getElem? (i := 2) rfl) (List.mem_of_getElem? (i := 3) rfl) (List.mem_of_getElem? (i := 4) rfl) (List.mem_of_getElem? (i := 5) rfl) 2 2 1 0 39 rfl rfl (show (1 : Int32).toInt = ((1 : Nat) : Int) from (show (1 : Int32).toInt = 1 from by decide)) (show (0 : Int32).toInt = ((0 : Nat) : Int) from (show (0 : Int32).toInt = 0 from by decide)) (show (39 : Int32).toInt = ((39 : Nat) : Int) from (show (39 : Int32).toInt = 39 from by decide)) (by omega) (by omega) rfl (Nat.le_of_ble_eq_true rfl) (by decide +kernel) dX2_forgetFirst_27 ?_
  refine V_aload_n X 0 rfl dX2_forgetFirst_30 ?_
  refine V_get (C := RX2) (T := TX2) (N := 6) (ci := 1) (v := .ref c3) X in_X2_forgetFirst_X2 0 rfl rfl 2 (by decide) (List.mem_of_getElem? (i := 7) rfl) rfl rfl dX2_forgetFirst_31 ?_
  refine V_iconst (v := (1 : Int32)) X (by decide) dX2_forgetFirst_34 ?_
  refine V_aload_n X 0 rfl dX2_forgetFirst_35 ?_
  refine V_get (C := RX2) (T := TX2) (N := 6) (ci := 1) (v := .ref c3) X in_X2_forgetFirst_X2 0 rfl rfl 2 (by decide) (List.mem_of_getElem? (i := 7) rfl) rfl rfl dX2_forgetFirst_36 ?_
  refine V_iconst (v := (0 : Int32)) X (by decide) dX2_forgetFirst_39 ?_
  refine V_bipush (v := (39 : Int32)) X (by decide) dX2_forgetFirst_40 ?_
  refine V_copyi (st := []) (ws' := [(cg, .inr (1, [.ref c1, .ref c2, .ref c3, .ref c4, .int dn, .int kp])), (c1, .inl (Y 0, 40, .inl (va_cpy f1 f1 1 0 39))), (c2, .inl (Y 0, 40, .inl (va_cpy f2 f2 1 0 39))), (c3, .inl (Y 0, 40, .inl (va_cpy f3 f3 1 0 39))), (c4, .inl (Y 0, 40, .inl f4))]) X (List.mem_of_getElem? (i := 2) rfl) (List.mem_of_getElem? (i := 3) rfl) (List.mem_of_getElem? (i := 4) rfl) (List.mem_of_getElem? (i := 5) rfl) 3 3 1 0 39 rfl rfl (show (1 : Int32).toInt = ((1 : Nat) : Int) from (show (1 : Int32).toInt = 1 from by decide)) (show (0 : Int32).toInt = ((0 : Nat) : Int) from (show (0 : Int32).toInt = 0 from by decide)) (show (39 : Int32).toInt = ((39 : Nat) : Int) from (show (39 : Int32).toInt = 39 from by decide)) (by omega) (by omega) rfl (Nat.le_of_ble_eq_true rfl) (by decide +kernel) dX2_forgetFirst_42 ?_
  refine V_aload_n X 0 rfl dX2_forgetFirst_45 ?_
  refine V_get (C := RX2) (T := TX2) (N := 6) (ci := 1) (v := .ref c4) X in_X2_forgetFirst_X2 0 rfl rfl 3 (by decide) (List.mem_of_getElem? (i := 8) rfl) rfl rfl dX2_forgetFirst_46 ?_
  refine V_iconst (v := (1 : Int32)) X (by decide) dX2_forgetFirst_49 ?_
  refine V_aload_n X 0 rfl dX2_forgetFirst_50 ?_
  refine V_get (C := RX2) (T := TX2) (N := 6) (ci := 1) (v := .ref c4) X in_X2_forgetFirst_X2 0 rfl rfl 3 (by decide) (List.mem_of_getElem? (i := 8) rfl) rfl rfl dX2_forgetFirst_51 ?_
  refine V_iconst (v := (0 : Int32)) X (by decide) dX2_forgetFirst_54 ?_
  refine V_bipush (v := (39 : Int32)) X (by decide) dX2_forgetFirst_55 ?_
  refine V_copyi (st := []) (ws' := [(cg, .inr (1, [.ref c1, .ref c2, .ref c3, .ref c4, .int dn, .int kp])), (c1, .inl (Y 0, 40, .inl (va_cpy f1 f1 1 0 39))), (c2, .inl (Y 0, 40, .inl (va_cpy f2 f2 1 0 39))), (c3, .inl (Y 0, 40, .inl (va_cpy f3 f3 1 0 39))), (c4, .inl (Y 0, 40, .inl (va_cpy f4 f4 1 0 39)))]) X (List.mem_of_getElem? (i := 2) rfl) (List.mem_of_getElem? (i := 3) rfl) (List.mem_of_getElem? (i := 4) rfl) (List.mem_of_getElem? (i := 5) rfl) 4 4 1 0 39 rfl rfl (show (1 : Int32).toInt = ((1 : Nat) : Int) from (show (1 : Int32).toInt = 1 from by decide)) (show (0 : Int32).toInt = ((0 : Nat) : Int) from (show (0 : Int32).toInt = 0 from by decide)) (show (39 : Int32).toInt = ((39 : Nat) : Int) from (show (39 : Int32).toInt = 39 from by decide)) (by omega) (by omega) rfl (Nat.le_of_ble_eq_true rfl) (by decide +kernel) dX2_forgetFirst_57 ?_
  refine V_aload_n X 0 rfl dX2_forgetFirst_60 ?_
  refine V_bipush (v := (39 : Int32)) X (by decide) dX2_forgetFirst_61 ?_
  refine V_put (C := RX2) (T := TX2) (N := 6) (ci := 1) (v := .int (39 : Int32)) (ty := tyX2 4) (ws' := [(cg, .inr (1, [.ref c1, .ref c2, .ref c3, .ref c4, .int (39 : Int32), .int kp])), (c1, .inl (Y 0, 40, .inl (va_cpy f1 f1 1 0 39))), (c2, .inl (Y 0, 40, .inl (va_cpy f2 f2 1 0 39))), (c3, .inl (Y 0, 40, .inl (va_cpy f3 f3 1 0 39))), (c4, .inl (Y 0, 40, .inl (va_cpy f4 f4 1 0 39)))]) X in_X2_forgetFirst_X2 0 rfl rfl 4 (by decide) (List.mem_of_getElem? (i := 9) rfl) rfl tyX2 tyX2_ok nmX2 rfl (tyX2_ok 4 (by decide)) rfl rfl (Nat.le_of_ble_eq_true rfl) rfl dX2_forgetFirst_63 ?_
  exact V_vret X hr dX2_forgetFirst_66 (⟨rfl, rfl⟩)

theorem in_X2_add_X2 : ∀ w ∈ wsX20, w ∈ wsX2_add := fun w h => List.mem_cons_of_mem _ (List.mem_append_right _ h)
set_option maxHeartbeats 4000000 in
set_option maxRecDepth 100000 in
theorem c_X2_add (l : Launch) (D : va_G) (Y : Nat → ClassId) (cg : Nat) (c1 : Nat) (c2 : Nat) (c3 : Nat) (c4 : Nat) (dn : Int32) (kp : Int32) (d_ : Nat) (k_ : Nat) (x1 : Int32) (x2 : Int32) (x3 : Int32) (x4 : Int32) (f1 : Nat → Int32) (f2 : Nat → Int32) (f3 : Nat → Int32) (f4 : Nat → Int32) (tdn : dn.toInt = ((d_ : Nat) : Int)) (tkp : kp.toInt = ((k_ : Nat) : Int)) (hdk : d_ ≤ k_) (hk40 : k_ ≤ 40) : Mg l yX2_add wsX2_add ({ frames := 2, cells := 0, slots := 0, locals := 84 }) D Y [(cg, .inr (1, [.ref c1, .ref c2, .ref c3, .ref c4, .int dn, .int kp])), (c1, .inl (Y 0, 40, .inl f1)), (c2, .inl (Y 0, 40, .inl f2)), (c3, .inl (Y 0, 40, .inl f3)), (c4, .inl (Y 0, 40, .inl f4))] [.ref cg, .int x1, .int x2, .int x3, .int x4] 0 0 (fun vv__ ww__ => (∃ (g1 : Nat → Int32), ∃ (g2 : Nat → Int32), ∃ (g3 : Nat → Int32), ∃ (g4 : Nat → Int32), ∃ (dn2 : Int32), ∃ (kp2 : Int32), vv__ = none ∧ ww__ = [(cg, .inr (1, [.ref c1, .ref c2, .ref c3, .ref c4, .int dn2, .int kp2])), (c1, .inl (Y 0, 40, .inl g1)), (c2, .inl (Y 0, 40, .inl g2)), (c3, .inl (Y 0, 40, .inl g3)), (c4, .inl (Y 0, 40, .inl g4))] ∧ (dn2.toInt = ((chD d_ : Nat) : Int)) ∧ (kp2.toInt = ((chD d_ : Nat) : Int)) ∧ (∀ j, j < chD d_ → g1 j = chg d_ f1 x1 j) ∧ (∀ j, j < chD d_ → g2 j = chg d_ f2 x2 j) ∧ (∀ j, j < chD d_ → g3 j = chg d_ f3 x3 j) ∧ (∀ j, j < chD d_ → g4 j = chg d_ f4 x4 j))) := by
  refine Mg_of (cc := cX2_add) (maxL := 5) (ret := none) (ls0 := [(0, .ref cg), (1, .int x1), (2, .int x2), (3, .int x3), (4, .int x4)]) RX2 (by decide) rfl rfl rfl (Nat.le_of_ble_eq_true rfl) (fun p__ e__ s__ m__ b__ t__ c__ X hr hn => ?_)
  refine V_aload_n X 0 rfl dX2_add_0 ?_
  refine V_get (C := RX2) (T := TX2) (N := 6) (ci := 1) (v := .int dn) X in_X2_add_X2 0 rfl rfl 4 (by decide) (List.mem_of_getElem? (i := 1) rfl) rfl rfl dX2_add_1 ?_
  refine V_bipush (v := (40 : Int32)) X (by decide) dX2_add_4 ?_
  refine V_icmp_lt X tdn (show (40 : Int32).toInt = 40 from by decide) 13 dX2_add_6 (by decide) (fun c_6 => ?_) (fun c_6 => ?_)
  · refine V_aload_n X 0 rfl dX2_add_13 ?_
    refine V_get (C := RX2) (T := TX2) (N := 6) (ci := 1) (v := .ref c1) X in_X2_add_X2 0 rfl rfl 0 (by decide) (List.mem_of_getElem? (i := 2) rfl) rfl rfl dX2_add_14 ?_
    refine V_aload_n X 0 rfl dX2_add_17 ?_
    refine V_get (C := RX2) (T := TX2) (N := 6) (ci := 1) (v := .int dn) X in_X2_add_X2 0 rfl rfl 4 (by decide) (List.mem_of_getElem? (i := 1) rfl) rfl rfl dX2_add_18 ?_
    refine V_iload_n X 1 rfl dX2_add_21 ?_
    refine V_callS (wr := [(cg, .inr (1, [.ref c1, .ref c2, .ref c3, .ref c4, .int dn, .int kp])), (c2, .inl (Y 0, 40, .inl f2)), (c3, .inl (Y 0, 40, .inl f3)), (c4, .inl (Y 0, 40, .inl f4))]) (st := []) X (c_X1_set l D Y c1 dn d_ x1 40 f1 tdn (by omega) (by omega)) 3 gX2_add_X1_set rfl (by decide +kernel) ⟨rfl, rfl⟩ ⟨Nat.le_of_ble_eq_true rfl, Nat.le_of_ble_eq_true rfl⟩ [1] [0, 2, 3, 4] rfl rfl rfl rfl (by decide) rfl rfl (Nat.le_of_ble_eq_true rfl) ⟨Nat.le_of_ble_eq_true rfl, Nat.le_of_ble_eq_true rfl⟩ dX2_add_22 (fun v_22 w_22 h_22 => ?_)
    obtain ⟨rfl, rfl⟩ := h_22
    refine V_to (pc' := 25) (ls' := [(0, .ref cg), (1, .int x1), (2, .int x2), (3, .int x3), (4, .int x4)]) (st' := []) (ws' := [(cg, .inr (1, [.ref c1, .ref c2, .ref c3, .ref c4, .int dn, .int kp])), (c2, .inl (Y 0, 40, .inl f2)), (c3, .inl (Y 0, 40, .inl f3)), (c4, .inl (Y 0, 40, .inl f4)), (c1, .inl (Y 0, 40, .inl (upd f1 d_ x1)))]) ?_ rfl rfl rfl rfl
    refine V_aload_n X 0 rfl dX2_add_25 ?_
    refine V_get (C := RX2) (T := TX2) (N := 6) (ci := 1) (v := .ref c2) X in_X2_add_X2 0 rfl rfl 1 (by decide) (List.mem_of_getElem? (i := 3) rfl) rfl rfl dX2_add_26 ?_
    refine V_aload_n X 0 rfl dX2_add_29 ?_
    refine V_get (C := RX2) (T := TX2) (N := 6) (ci := 1) (v := .int dn) X in_X2_add_X2 0 rfl rfl 4 (by decide) (List.mem_of_getElem? (i := 1) rfl) rfl rfl dX2_add_30 ?_
    refine V_iload_n X 2 rfl dX2_add_33 ?_
    refine V_callS (wr := [(cg, .inr (1, [.ref c1, .ref c2, .ref c3, .ref c4, .int dn, .int kp])), (c3, .inl (Y 0, 40, .inl f3)), (c4, .inl (Y 0, 40, .inl f4)), (c1, .inl (Y 0, 40, .inl (upd f1 d_ x1)))]) (st := []) X (c_X1_set l D Y c2 dn d_ x2 40 f2 tdn (by omega) (by omega)) 3 gX2_add_X1_set rfl (by decide +kernel) ⟨rfl, rfl⟩ ⟨Nat.le_of_ble_eq_true rfl, Nat.le_of_ble_eq_true rfl⟩ [1] [0, 2, 3, 4] rfl rfl rfl rfl (by decide) rfl rfl (Nat.le_of_ble_eq_true rfl) ⟨Nat.le_of_ble_eq_true rfl, Nat.le_of_ble_eq_true rfl⟩ dX2_add_34 (fun v_34 w_34 h_34 => ?_)
    obtain ⟨rfl, rfl⟩ := h_34
    refine V_to (pc' := 37) (ls' := [(0, .ref cg), (1, .int x1), (2, .int x2), (3, .int x3), (4, .int x4)]) (st' := []) (ws' := [(cg, .inr (1, [.ref c1, .ref c2, .ref c3, .ref c4, .int dn, .int kp])), (c3, .inl (Y 0, 40, .inl f3)), (c4, .inl (Y 0, 40, .inl f4)), (c1, .inl (Y 0, 40, .inl (upd f1 d_ x1))), (c2, .inl (Y 0, 40, .inl (upd f2 d_ x2)))]) ?_ rfl rfl rfl rfl
    refine V_aload_n X 0 rfl dX2_add_37 ?_
    refine V_get (C := RX2) (T := TX2) (N := 6) (ci := 1) (v := .ref c3) X in_X2_add_X2 0 rfl rfl 2 (by decide) (List.mem_of_getElem? (i := 4) rfl) rfl rfl dX2_add_38 ?_
    refine V_aload_n X 0 rfl dX2_add_41 ?_
    refine V_get (C := RX2) (T := TX2) (N := 6) (ci := 1) (v := .int dn) X in_X2_add_X2 0 rfl rfl 4 (by decide) (List.mem_of_getElem? (i := 1) rfl) rfl rfl dX2_add_42 ?_
    refine V_iload_n X 3 rfl dX2_add_45 ?_
    refine V_callS (wr := [(cg, .inr (1, [.ref c1, .ref c2, .ref c3, .ref c4, .int dn, .int kp])), (c4, .inl (Y 0, 40, .inl f4)), (c1, .inl (Y 0, 40, .inl (upd f1 d_ x1))), (c2, .inl (Y 0, 40, .inl (upd f2 d_ x2)))]) (st := []) X (c_X1_set l D Y c3 dn d_ x3 40 f3 tdn (by omega) (by omega)) 3 gX2_add_X1_set rfl (by decide +kernel) ⟨rfl, rfl⟩ ⟨Nat.le_of_ble_eq_true rfl, Nat.le_of_ble_eq_true rfl⟩ [1] [0, 2, 3, 4] rfl rfl rfl rfl (by decide) rfl rfl (Nat.le_of_ble_eq_true rfl) ⟨Nat.le_of_ble_eq_true rfl, Nat.le_of_ble_eq_true rfl⟩ dX2_add_46 (fun v_46 w_46 h_46 => ?_)
    obtain ⟨rfl, rfl⟩ := h_46
    refine V_to (pc' := 49) (ls' := [(0, .ref cg), (1, .int x1), (2, .int x2), (3, .int x3), (4, .int x4)]) (st' := []) (ws' := [(cg, .inr (1, [.ref c1, .ref c2, .ref c3, .ref c4, .int dn, .int kp])), (c4, .inl (Y 0, 40, .inl f4)), (c1, .inl (Y 0, 40, .inl (upd f1 d_ x1))), (c2, .inl (Y 0, 40, .inl (upd f2 d_ x2))), (c3, .inl (Y 0, 40, .inl (upd f3 d_ x3)))]) ?_ rfl rfl rfl rfl
    refine V_aload_n X 0 rfl dX2_add_49 ?_
    refine V_get (C := RX2) (T := TX2) (N := 6) (ci := 1) (v := .ref c4) X in_X2_add_X2 0 rfl rfl 3 (by decide) (List.mem_of_getElem? (i := 5) rfl) rfl rfl dX2_add_50 ?_
    refine V_aload_n X 0 rfl dX2_add_53 ?_
    refine V_get (C := RX2) (T := TX2) (N := 6) (ci := 1) (v := .int dn) X in_X2_add_X2 0 rfl rfl 4 (by decide) (List.mem_of_getElem? (i := 1) rfl) rfl rfl dX2_add_54 ?_
    refine V_iload X 4 rfl dX2_add_57 ?_
    refine V_callS (wr := [(cg, .inr (1, [.ref c1, .ref c2, .ref c3, .ref c4, .int dn, .int kp])), (c1, .inl (Y 0, 40, .inl (upd f1 d_ x1))), (c2, .inl (Y 0, 40, .inl (upd f2 d_ x2))), (c3, .inl (Y 0, 40, .inl (upd f3 d_ x3)))]) (st := []) X (c_X1_set l D Y c4 dn d_ x4 40 f4 tdn (by omega) (by omega)) 3 gX2_add_X1_set rfl (by decide +kernel) ⟨rfl, rfl⟩ ⟨Nat.le_of_ble_eq_true rfl, Nat.le_of_ble_eq_true rfl⟩ [1] [0, 2, 3, 4] rfl rfl rfl rfl (by decide) rfl rfl (Nat.le_of_ble_eq_true rfl) ⟨Nat.le_of_ble_eq_true rfl, Nat.le_of_ble_eq_true rfl⟩ dX2_add_59 (fun v_59 w_59 h_59 => ?_)
    obtain ⟨rfl, rfl⟩ := h_59
    refine V_to (pc' := 62) (ls' := [(0, .ref cg), (1, .int x1), (2, .int x2), (3, .int x3), (4, .int x4)]) (st' := []) (ws' := [(cg, .inr (1, [.ref c1, .ref c2, .ref c3, .ref c4, .int dn, .int kp])), (c1, .inl (Y 0, 40, .inl (upd f1 d_ x1))), (c2, .inl (Y 0, 40, .inl (upd f2 d_ x2))), (c3, .inl (Y 0, 40, .inl (upd f3 d_ x3))), (c4, .inl (Y 0, 40, .inl (upd f4 d_ x4)))]) ?_ rfl rfl rfl rfl
    refine V_aload_n X 0 rfl dX2_add_62 ?_
    refine V_dup X rfl dX2_add_63 ?_
    refine V_get (C := RX2) (T := TX2) (N := 6) (ci := 1) (v := .int dn) X in_X2_add_X2 0 rfl rfl 4 (by decide) (List.mem_of_getElem? (i := 1) rfl) rfl rfl dX2_add_64 ?_
    refine V_iconst (v := (1 : Int32)) X (by decide) dX2_add_67 ?_
    refine V_iaddZ X tdn (show (1 : Int32).toInt = 1 from by decide) (by omega) (by omega) dX2_add_68 (fun x_5 ex_5 tx_5 => ?_)
    have tx_5 : x_5.toInt = (((d_ + 1) : Nat) : Int) := by omega
    refine V_put (C := RX2) (T := TX2) (N := 6) (ci := 1) (v := .int x_5) (ty := tyX2 4) (ws' := [(cg, .inr (1, [.ref c1, .ref c2, .ref c3, .ref c4, .int x_5, .int kp])), (c1, .inl (Y 0, 40, .inl (upd f1 d_ x1))), (c2, .inl (Y 0, 40, .inl (upd f2 d_ x2))), (c3, .inl (Y 0, 40, .inl (upd f3 d_ x3))), (c4, .inl (Y 0, 40, .inl (upd f4 d_ x4)))]) X in_X2_add_X2 0 rfl rfl 4 (by decide) (List.mem_of_getElem? (i := 1) rfl) rfl tyX2 tyX2_ok nmX2 rfl (tyX2_ok 4 (by decide)) rfl rfl (Nat.le_of_ble_eq_true rfl) rfl dX2_add_69 ?_
    refine V_aload_n X 0 rfl dX2_add_72 ?_
    refine V_aload_n X 0 rfl dX2_add_73 ?_
    refine V_get (C := RX2) (T := TX2) (N := 6) (ci := 1) (v := .int x_5) X in_X2_add_X2 0 rfl rfl 4 (by decide) (List.mem_of_getElem? (i := 1) rfl) rfl rfl dX2_add_74 ?_
    refine V_put (C := RX2) (T := TX2) (N := 6) (ci := 1) (v := .int x_5) (ty := tyX2 5) (ws' := [(cg, .inr (1, [.ref c1, .ref c2, .ref c3, .ref c4, .int x_5, .int x_5])), (c1, .inl (Y 0, 40, .inl (upd f1 d_ x1))), (c2, .inl (Y 0, 40, .inl (upd f2 d_ x2))), (c3, .inl (Y 0, 40, .inl (upd f3 d_ x3))), (c4, .inl (Y 0, 40, .inl (upd f4 d_ x4)))]) X in_X2_add_X2 0 rfl rfl 5 (by decide) (List.mem_of_getElem? (i := 6) rfl) rfl tyX2 tyX2_ok nmX2 rfl (tyX2_ok 5 (by decide)) rfl rfl (Nat.le_of_ble_eq_true rfl) rfl dX2_add_77 ?_
    exact V_vret X hr dX2_add_80 (⟨(upd f1 d_ x1), (upd f2 d_ x2), (upd f3 d_ x3), (upd f4 d_ x4), x_5, x_5, rfl, rfl, (by unfold chD; rw [if_pos (by omega)]; omega), (by unfold chD; rw [if_pos (by omega)]; omega), chg_lt (by omega), chg_lt (by omega), chg_lt (by omega), chg_lt (by omega)⟩)
  · refine V_aload_n X 0 rfl dX2_add_9 ?_
    refine V_callV (C := RX2) (wr := []) (st := []) X (c_X2_forgetFirst l D Y cg c1 c2 c3 c4 dn kp f1 f2 f3 f4) 0 gX2_add_X2_forgetFirst rfl (by decide +kernel) ⟨rfl, rfl⟩ ⟨Nat.le_of_ble_eq_true rfl, Nat.le_of_ble_eq_true rfl⟩ [0, 1, 2, 3, 4] [] rfl rfl rfl rfl (by decide) (ci := 1) rfl rfl 0 rfl rfl rfl (Nat.le_of_ble_eq_true rfl) ⟨Nat.le_of_ble_eq_true rfl, Nat.le_of_ble_eq_true rfl⟩ dX2_add_10 (fun v_10 w_10 h_10 => ?_)
    obtain ⟨rfl, rfl⟩ := h_10
    refine V_to (pc' := 13) (ls' := [(0, .ref cg), (1, .int x1), (2, .int x2), (3, .int x3), (4, .int x4)]) (st' := []) (ws' := [(cg, .inr (1, [.ref c1, .ref c2, .ref c3, .ref c4, .int (39 : Int32), .int kp])), (c1, .inl (Y 0, 40, .inl (va_cpy f1 f1 1 0 39))), (c2, .inl (Y 0, 40, .inl (va_cpy f2 f2 1 0 39))), (c3, .inl (Y 0, 40, .inl (va_cpy f3 f3 1 0 39))), (c4, .inl (Y 0, 40, .inl (va_cpy f4 f4 1 0 39)))]) ?_ rfl rfl rfl rfl
    refine V_aload_n X 0 rfl dX2_add_13 ?_
    refine V_get (C := RX2) (T := TX2) (N := 6) (ci := 1) (v := .ref c1) X in_X2_add_X2 0 rfl rfl 0 (by decide) (List.mem_of_getElem? (i := 2) rfl) rfl rfl dX2_add_14 ?_
    refine V_aload_n X 0 rfl dX2_add_17 ?_
    refine V_get (C := RX2) (T := TX2) (N := 6) (ci := 1) (v := .int (39 : Int32)) X in_X2_add_X2 0 rfl rfl 4 (by decide) (List.mem_of_getElem? (i := 1) rfl) rfl rfl dX2_add_18 ?_
    refine V_iload_n X 1 rfl dX2_add_21 ?_
    refine V_callS (wr := [(cg, .inr (1, [.ref c1, .ref c2, .ref c3, .ref c4, .int (39 : Int32), .int kp])), (c2, .inl (Y 0, 40, .inl (va_cpy f2 f2 1 0 39))), (c3, .inl (Y 0, 40, .inl (va_cpy f3 f3 1 0 39))), (c4, .inl (Y 0, 40, .inl (va_cpy f4 f4 1 0 39)))]) (st := []) X (c_X1_set l D Y c1 (39 : Int32) 39 x1 40 (va_cpy f1 f1 1 0 39) (show (39 : Int32).toInt = 39 from by decide) (by omega) (by omega)) 3 gX2_add_X1_set rfl (by decide +kernel) ⟨rfl, rfl⟩ ⟨Nat.le_of_ble_eq_true rfl, Nat.le_of_ble_eq_true rfl⟩ [1] [0, 2, 3, 4] rfl rfl rfl rfl (by decide) rfl rfl (Nat.le_of_ble_eq_true rfl) ⟨Nat.le_of_ble_eq_true rfl, Nat.le_of_ble_eq_true rfl⟩ dX2_add_22 (fun v_22 w_22 h_22 => ?_)
    obtain ⟨rfl, rfl⟩ := h_22
    refine V_to (pc' := 25) (ls' := [(0, .ref cg), (1, .int x1), (2, .int x2), (3, .int x3), (4, .int x4)]) (st' := []) (ws' := [(cg, .inr (1, [.ref c1, .ref c2, .ref c3, .ref c4, .int (39 : Int32), .int kp])), (c2, .inl (Y 0, 40, .inl (va_cpy f2 f2 1 0 39))), (c3, .inl (Y 0, 40, .inl (va_cpy f3 f3 1 0 39))), (c4, .inl (Y 0, 40, .inl (va_cpy f4 f4 1 0 39))), (c1, .inl (Y 0, 40, .inl (upd (va_cpy f1 f1 1 0 39) 39 x1)))]) ?_ rfl rfl rfl rfl
    refine V_aload_n X 0 rfl dX2_add_25 ?_
    refine V_get (C := RX2) (T := TX2) (N := 6) (ci := 1) (v := .ref c2) X in_X2_add_X2 0 rfl rfl 1 (by decide) (List.mem_of_getElem? (i := 3) rfl) rfl rfl dX2_add_26 ?_
    refine V_aload_n X 0 rfl dX2_add_29 ?_
    refine V_get (C := RX2) (T := TX2) (N := 6) (ci := 1) (v := .int (39 : Int32)) X in_X2_add_X2 0 rfl rfl 4 (by decide) (List.mem_of_getElem? (i := 1) rfl) rfl rfl dX2_add_30 ?_
    refine V_iload_n X 2 rfl dX2_add_33 ?_
    refine V_callS (wr := [(cg, .inr (1, [.ref c1, .ref c2, .ref c3, .ref c4, .int (39 : Int32), .int kp])), (c3, .inl (Y 0, 40, .inl (va_cpy f3 f3 1 0 39))), (c4, .inl (Y 0, 40, .inl (va_cpy f4 f4 1 0 39))), (c1, .inl (Y 0, 40, .inl (upd (va_cpy f1 f1 1 0 39) 39 x1)))]) (st := []) X (c_X1_set l D Y c2 (39 : Int32) 39 x2 40 (va_cpy f2 f2 1 0 39) (show (39 : Int32).toInt = 39 from by decide) (by omega) (by omega)) 3 gX2_add_X1_set rfl (by decide +kernel) ⟨rfl, rfl⟩ ⟨Nat.le_of_ble_eq_true rfl, Nat.le_of_ble_eq_true rfl⟩ [1] [0, 2, 3, 4] rfl rfl rfl rfl (by decide) rfl rfl (Nat.le_of_ble_eq_true rfl) ⟨Nat.le_of_ble_eq_true rfl, Nat.le_of_ble_eq_true rfl⟩ dX2_add_34 (fun v_34 w_34 h_34 => ?_)
    obtain ⟨rfl, rfl⟩ := h_34
    refine V_to (pc' := 37) (ls' := [(0, .ref cg), (1, .int x1), (2, .int x2), (3, .int x3), (4, .int x4)]) (st' := []) (ws' := [(cg, .inr (1, [.ref c1, .ref c2, .ref c3, .ref c4, .int (39 : Int32), .int kp])), (c3, .inl (Y 0, 40, .inl (va_cpy f3 f3 1 0 39))), (c4, .inl (Y 0, 40, .inl (va_cpy f4 f4 1 0 39))), (c1, .inl (Y 0, 40, .inl (upd (va_cpy f1 f1 1 0 39) 39 x1))), (c2, .inl (Y 0, 40, .inl (upd (va_cpy f2 f2 1 0 39) 39 x2)))]) ?_ rfl rfl rfl rfl
    refine V_aload_n X 0 rfl dX2_add_37 ?_
    refine V_get (C := RX2) (T := TX2) (N := 6) (ci := 1) (v := .ref c3) X in_X2_add_X2 0 rfl rfl 2 (by decide) (List.mem_of_getElem? (i := 4) rfl) rfl rfl dX2_add_38 ?_
    refine V_aload_n X 0 rfl dX2_add_41 ?_
    refine V_get (C := RX2) (T := TX2) (N := 6) (ci := 1) (v := .int (39 : Int32)) X in_X2_add_X2 0 rfl rfl 4 (by decide) (List.mem_of_getElem? (i := 1) rfl) rfl rfl dX2_add_42 ?_
    refine V_iload_n X 3 rfl dX2_add_45 ?_
    refine V_callS (wr := [(cg, .inr (1, [.ref c1, .ref c2, .ref c3, .ref c4, .int (39 : Int32), .int kp])), (c4, .inl (Y 0, 40, .inl (va_cpy f4 f4 1 0 39))), (c1, .inl (Y 0, 40, .inl (upd (va_cpy f1 f1 1 0 39) 39 x1))), (c2, .inl (Y 0, 40, .inl (upd (va_cpy f2 f2 1 0 39) 39 x2)))]) (st := []) X (c_X1_set l D Y c3 (39 : Int32) 39 x3 40 (va_cpy f3 f3 1 0 39) (show (39 : Int32).toInt = 39 from by decide) (by omega) (by omega)) 3 gX2_add_X1_set rfl (by decide +kernel) ⟨rfl, rfl⟩ ⟨Nat.le_of_ble_eq_true rfl, Nat.le_of_ble_eq_true rfl⟩ [1] [0, 2, 3, 4] rfl rfl rfl rfl (by decide) rfl rfl (Nat.le_of_ble_eq_true rfl) ⟨Nat.le_of_ble_eq_true rfl, Nat.le_of_ble_eq_true rfl⟩ dX2_add_46 (fun v_46 w_46 h_46 => ?_)
    obtain ⟨rfl, rfl⟩ := h_46
    refine V_to (pc' := 49) (ls' := [(0, .ref cg), (1, .int x1), (2, .int x2), (3, .int x3), (4, .int x4)]) (st' := []) (ws' := [(cg, .inr (1, [.ref c1, .ref c2, .ref c3, .ref c4, .int (39 : Int32), .int kp])), (c4, .inl (Y 0, 40, .inl (va_cpy f4 f4 1 0 39))), (c1, .inl (Y 0, 40, .inl (upd (va_cpy f1 f1 1 0 39) 39 x1))), (c2, .inl (Y 0, 40, .inl (upd (va_cpy f2 f2 1 0 39) 39 x2))), (c3, .inl (Y 0, 40, .inl (upd (va_cpy f3 f3 1 0 39) 39 x3)))]) ?_ rfl rfl rfl rfl
    refine V_aload_n X 0 rfl dX2_add_49 ?_
    refine V_get (C := RX2) (T := TX2) (N := 6) (ci := 1) (v := .ref c4) X in_X2_add_X2 0 rfl rfl 3 (by decide) (List.mem_of_getElem? (i := 5) rfl) rfl rfl dX2_add_50 ?_
    refine V_aload_n X 0 rfl dX2_add_53 ?_
    refine V_get (C := RX2) (T := TX2) (N := 6) (ci := 1) (v := .int (39 : Int32)) X in_X2_add_X2 0 rfl rfl 4 (by decide) (List.mem_of_getElem? (i := 1) rfl) rfl rfl dX2_add_54 ?_
    refine V_iload X 4 rfl dX2_add_57 ?_
    refine V_callS (wr := [(cg, .inr (1, [.ref c1, .ref c2, .ref c3, .ref c4, .int (39 : Int32), .int kp])), (c1, .inl (Y 0, 40, .inl (upd (va_cpy f1 f1 1 0 39) 39 x1))), (c2, .inl (Y 0, 40, .inl (upd (va_cpy f2 f2 1 0 39) 39 x2))), (c3, .inl (Y 0, 40, .inl (upd (va_cpy f3 f3 1 0 39) 39 x3)))]) (st := []) X (c_X1_set l D Y c4 (39 : Int32) 39 x4 40 (va_cpy f4 f4 1 0 39) (show (39 : Int32).toInt = 39 from by decide) (by omega) (by omega)) 3 gX2_add_X1_set rfl (by decide +kernel) ⟨rfl, rfl⟩ ⟨Nat.le_of_ble_eq_true rfl, Nat.le_of_ble_eq_true rfl⟩ [1] [0, 2, 3, 4] rfl rfl rfl rfl (by decide) rfl rfl (Nat.le_of_ble_eq_true rfl) ⟨Nat.le_of_ble_eq_true rfl, Nat.le_of_ble_eq_true rfl⟩ dX2_add_59 (fun v_59 w_59 h_59 => ?_)
    obtain ⟨rfl, rfl⟩ := h_59
    refine V_to (pc' := 62) (ls' := [(0, .ref cg), (1, .int x1), (2, .int x2), (3, .int x3), (4, .int x4)]) (st' := []) (ws' := [(cg, .inr (1, [.ref c1, .ref c2, .ref c3, .ref c4, .int (39 : Int32), .int kp])), (c1, .inl (Y 0, 40, .inl (upd (va_cpy f1 f1 1 0 39) 39 x1))), (c2, .inl (Y 0, 40, .inl (upd (va_cpy f2 f2 1 0 39) 39 x2))), (c3, .inl (Y 0, 40, .inl (upd (va_cpy f3 f3 1 0 39) 39 x3))), (c4, .inl (Y 0, 40, .inl (upd (va_cpy f4 f4 1 0 39) 39 x4)))]) ?_ rfl rfl rfl rfl
    refine V_aload_n X 0 rfl dX2_add_62 ?_
    refine V_dup X rfl dX2_add_63 ?_
    refine V_get (C := RX2) (T := TX2) (N := 6) (ci := 1) (v := .int (39 : Int32)) X in_X2_add_X2 0 rfl rfl 4 (by decide) (List.mem_of_getElem? (i := 1) rfl) rfl rfl dX2_add_64 ?_
    refine V_iconst (v := (1 : Int32)) X (by decide) dX2_add_67 ?_
    refine V_iaddZ X (show (39 : Int32).toInt = 39 from by decide) (show (1 : Int32).toInt = 1 from by decide) (by omega) (by omega) dX2_add_68 (fun x_11 ex_11 tx_11 => ?_)
    have tx_11 : x_11.toInt = (((39 + 1) : Nat) : Int) := by omega
    obtain rfl : x_11 = (40 : Int32) := ex_11.trans (by decide)
    refine V_put (C := RX2) (T := TX2) (N := 6) (ci := 1) (v := .int (40 : Int32)) (ty := tyX2 4) (ws' := [(cg, .inr (1, [.ref c1, .ref c2, .ref c3, .ref c4, .int (40 : Int32), .int kp])), (c1, .inl (Y 0, 40, .inl (upd (va_cpy f1 f1 1 0 39) 39 x1))), (c2, .inl (Y 0, 40, .inl (upd (va_cpy f2 f2 1 0 39) 39 x2))), (c3, .inl (Y 0, 40, .inl (upd (va_cpy f3 f3 1 0 39) 39 x3))), (c4, .inl (Y 0, 40, .inl (upd (va_cpy f4 f4 1 0 39) 39 x4)))]) X in_X2_add_X2 0 rfl rfl 4 (by decide) (List.mem_of_getElem? (i := 1) rfl) rfl tyX2 tyX2_ok nmX2 rfl (tyX2_ok 4 (by decide)) rfl rfl (Nat.le_of_ble_eq_true rfl) rfl dX2_add_69 ?_
    refine V_aload_n X 0 rfl dX2_add_72 ?_
    refine V_aload_n X 0 rfl dX2_add_73 ?_
    refine V_get (C := RX2) (T := TX2) (N := 6) (ci := 1) (v := .int (40 : Int32)) X in_X2_add_X2 0 rfl rfl 4 (by decide) (List.mem_of_getElem? (i := 1) rfl) rfl rfl dX2_add_74 ?_
    refine V_put (C := RX2) (T := TX2) (N := 6) (ci := 1) (v := .int (40 : Int32)) (ty := tyX2 5) (ws' := [(cg, .inr (1, [.ref c1, .ref c2, .ref c3, .ref c4, .int (40 : Int32), .int (40 : Int32)])), (c1, .inl (Y 0, 40, .inl (upd (va_cpy f1 f1 1 0 39) 39 x1))), (c2, .inl (Y 0, 40, .inl (upd (va_cpy f2 f2 1 0 39) 39 x2))), (c3, .inl (Y 0, 40, .inl (upd (va_cpy f3 f3 1 0 39) 39 x3))), (c4, .inl (Y 0, 40, .inl (upd (va_cpy f4 f4 1 0 39) 39 x4)))]) X in_X2_add_X2 0 rfl rfl 5 (by decide) (List.mem_of_getElem? (i := 6) rfl) rfl tyX2 tyX2_ok nmX2 rfl (tyX2_ok 5 (by decide)) rfl rfl (Nat.le_of_ble_eq_true rfl) rfl dX2_add_77 ?_
    exact V_vret X hr dX2_add_80 (⟨(upd (va_cpy f1 f1 1 0 39) 39 x1), (upd (va_cpy f2 f2 1 0 39) 39 x2), (upd (va_cpy f3 f3 1 0 39) 39 x3), (upd (va_cpy f4 f4 1 0 39) 39 x4), (40 : Int32), (40 : Int32), rfl, rfl, (by unfold chD; rw [if_neg (by omega)]; omega), (by unfold chD; rw [if_neg (by omega)]; omega), chg_ge (by omega), chg_ge (by omega), chg_ge (by omega), chg_ge (by omega)⟩)

theorem in_X8_setAside_X8 : ∀ w ∈ wsX80, w ∈ wsX8_setAside := fun w h => List.mem_cons_of_mem _ (List.mem_append_right _ h)
set_option maxHeartbeats 4000000 in
set_option maxRecDepth 100000 in
theorem c_X8_setAside (l : Launch) (D : va_G) (Y : Nat → ClassId) (o : Nat) (p : Nat) (h : Nat) (sa : Nat) (si : Nat) (z : Int32) (fa : Nat → Int32) (fb : Nat → Int32) : Mg l yX8_setAside wsX8_setAside ({ frames := 2, cells := 0, slots := 0, locals := 85 }) D Y [(o, .inr (7, [.ref p, .ref h, .ref sa, .ref si, .int z])), (h, .inl (Y 0, 24, .inl fa)), (sa, .inl (Y 0, 24, .inl fb))] [.ref o] 0 0 (fun vv__ ww__ => (∃ (f2 : Nat → Int32), vv__ = none ∧ ww__ = [(o, .inr (7, [.ref p, .ref h, .ref sa, .ref si, .int z])), (h, .inl (Y 0, 24, .inl fa)), (sa, .inl (Y 0, 24, .inl f2))] ∧ (∀ j, j < 24 → f2 j = fa j))) := by
  refine Mg_of (cc := cX8_setAside) (maxL := 1) (ret := none) (ls0 := [(0, .ref o)]) RX8 (by decide) rfl rfl rfl (Nat.le_of_ble_eq_true rfl) (fun p__ e__ s__ m__ b__ t__ c__ X hr hn => ?_)
  refine V_aload_n X 0 rfl dX8_setAside_0 ?_
  refine V_get (C := RX8) (T := TX8) (N := 5) (ci := 7) (v := .ref h) X in_X8_setAside_X8 0 rfl rfl 1 (by decide) (List.mem_of_getElem? (i := 1) rfl) rfl rfl dX8_setAside_1 ?_
  refine V_aload_n X 0 rfl dX8_setAside_4 ?_
  refine V_get (C := RX8) (T := TX8) (N := 5) (ci := 7) (v := .ref sa) X in_X8_setAside_X8 0 rfl rfl 2 (by decide) (List.mem_of_getElem? (i := 2) rfl) rfl rfl dX8_setAside_5 ?_
  refine V_callS (wr := [(o, .inr (7, [.ref p, .ref h, .ref sa, .ref si, .int z]))]) (st := []) X (c_X1_copy l D Y h sa 24 fa fb (by omega)) 2 gX8_setAside_X1_copy rfl (by decide +kernel) ⟨rfl, rfl⟩ ⟨Nat.le_of_ble_eq_true rfl, Nat.le_of_ble_eq_true rfl⟩ [1, 2] [0] rfl rfl rfl rfl (by decide) rfl rfl (Nat.le_of_ble_eq_true rfl) ⟨Nat.le_of_ble_eq_true rfl, Nat.le_of_ble_eq_true rfl⟩ dX8_setAside_8 (fun v_8 w_8 h_8 => ?_)
  obtain ⟨f2_2, rfl, rfl, hhf_3⟩ := h_8
  refine V_to (pc' := 11) (ls' := [(0, .ref o)]) (st' := []) (ws' := [(o, .inr (7, [.ref p, .ref h, .ref sa, .ref si, .int z])), (h, .inl (Y 0, 24, .inl fa)), (sa, .inl (Y 0, 24, .inl f2_2))]) ?_ rfl rfl rfl rfl
  exact V_vret X hr dX8_setAside_11 (⟨f2_2, rfl, rfl, hhf_3⟩)

theorem in_X8_takeBack_X8 : ∀ w ∈ wsX80, w ∈ wsX8_takeBack := fun w h => List.mem_cons_of_mem _ (List.mem_append_right _ h)
set_option maxHeartbeats 4000000 in
set_option maxRecDepth 100000 in
theorem c_X8_takeBack (l : Launch) (D : va_G) (Y : Nat → ClassId) (o : Nat) (p : Nat) (h : Nat) (sa : Nat) (si : Nat) (z : Int32) (fa : Nat → Int32) (fb : Nat → Int32) : Mg l yX8_takeBack wsX8_takeBack ({ frames := 2, cells := 0, slots := 0, locals := 85 }) D Y [(o, .inr (7, [.ref p, .ref h, .ref sa, .ref si, .int z])), (sa, .inl (Y 0, 24, .inl fa)), (h, .inl (Y 0, 24, .inl fb))] [.ref o] 0 0 (fun vv__ ww__ => (∃ (f2 : Nat → Int32), vv__ = none ∧ ww__ = [(o, .inr (7, [.ref p, .ref h, .ref sa, .ref si, .int z])), (sa, .inl (Y 0, 24, .inl fa)), (h, .inl (Y 0, 24, .inl f2))] ∧ (∀ j, j < 24 → f2 j = fa j))) := by
  refine Mg_of (cc := cX8_takeBack) (maxL := 1) (ret := none) (ls0 := [(0, .ref o)]) RX8 (by decide) rfl rfl rfl (Nat.le_of_ble_eq_true rfl) (fun p__ e__ s__ m__ b__ t__ c__ X hr hn => ?_)
  refine V_aload_n X 0 rfl dX8_takeBack_0 ?_
  refine V_get (C := RX8) (T := TX8) (N := 5) (ci := 7) (v := .ref sa) X in_X8_takeBack_X8 0 rfl rfl 2 (by decide) (List.mem_of_getElem? (i := 1) rfl) rfl rfl dX8_takeBack_1 ?_
  refine V_aload_n X 0 rfl dX8_takeBack_4 ?_
  refine V_get (C := RX8) (T := TX8) (N := 5) (ci := 7) (v := .ref h) X in_X8_takeBack_X8 0 rfl rfl 1 (by decide) (List.mem_of_getElem? (i := 2) rfl) rfl rfl dX8_takeBack_5 ?_
  refine V_callS (wr := [(o, .inr (7, [.ref p, .ref h, .ref sa, .ref si, .int z]))]) (st := []) X (c_X1_copy l D Y sa h 24 fa fb (by omega)) 2 gX8_takeBack_X1_copy rfl (by decide +kernel) ⟨rfl, rfl⟩ ⟨Nat.le_of_ble_eq_true rfl, Nat.le_of_ble_eq_true rfl⟩ [1, 2] [0] rfl rfl rfl rfl (by decide) rfl rfl (Nat.le_of_ble_eq_true rfl) ⟨Nat.le_of_ble_eq_true rfl, Nat.le_of_ble_eq_true rfl⟩ dX8_takeBack_8 (fun v_8 w_8 h_8 => ?_)
  obtain ⟨f2_2, rfl, rfl, hhf_3⟩ := h_8
  refine V_to (pc' := 11) (ls' := [(0, .ref o)]) (st' := []) (ws' := [(o, .inr (7, [.ref p, .ref h, .ref sa, .ref si, .int z])), (sa, .inl (Y 0, 24, .inl fa)), (h, .inl (Y 0, 24, .inl f2_2))]) ?_ rfl rfl rfl rfl
  exact V_vret X hr dX8_takeBack_11 (⟨f2_2, rfl, rfl, hhf_3⟩)

theorem in_X8_keepImage_X8 : ∀ w ∈ wsX80, w ∈ wsX8_keepImage := fun w h => List.mem_cons_of_mem _ (List.mem_append_right _ h)
set_option maxHeartbeats 4000000 in
set_option maxRecDepth 100000 in
theorem c_X8_keepImage (l : Launch) (D : va_G) (Y : Nat → ClassId) (o : Nat) (p : Nat) (h : Nat) (sa : Nat) (si : Nat) (z : Int32) (fa : Nat → Int32) (fb : Nat → Int32) : Mg l yX8_keepImage wsX8_keepImage ({ frames := 2, cells := 0, slots := 0, locals := 85 }) D Y [(o, .inr (7, [.ref p, .ref h, .ref sa, .ref si, .int z])), (h, .inl (Y 0, 24, .inl fa)), (si, .inl (Y 0, 24, .inl fb))] [.ref o] 0 0 (fun vv__ ww__ => (∃ (f2 : Nat → Int32), vv__ = none ∧ ww__ = [(o, .inr (7, [.ref p, .ref h, .ref sa, .ref si, .int z])), (h, .inl (Y 0, 24, .inl fa)), (si, .inl (Y 0, 24, .inl f2))] ∧ (∀ j, j < 24 → f2 j = fa j))) := by
  refine Mg_of (cc := cX8_keepImage) (maxL := 1) (ret := none) (ls0 := [(0, .ref o)]) RX8 (by decide) rfl rfl rfl (Nat.le_of_ble_eq_true rfl) (fun p__ e__ s__ m__ b__ t__ c__ X hr hn => ?_)
  refine V_aload_n X 0 rfl dX8_keepImage_0 ?_
  refine V_get (C := RX8) (T := TX8) (N := 5) (ci := 7) (v := .ref h) X in_X8_keepImage_X8 0 rfl rfl 1 (by decide) (List.mem_of_getElem? (i := 1) rfl) rfl rfl dX8_keepImage_1 ?_
  refine V_aload_n X 0 rfl dX8_keepImage_4 ?_
  refine V_get (C := RX8) (T := TX8) (N := 5) (ci := 7) (v := .ref si) X in_X8_keepImage_X8 0 rfl rfl 3 (by decide) (List.mem_of_getElem? (i := 2) rfl) rfl rfl dX8_keepImage_5 ?_
  refine V_callS (wr := [(o, .inr (7, [.ref p, .ref h, .ref sa, .ref si, .int z]))]) (st := []) X (c_X1_copy l D Y h si 24 fa fb (by omega)) 2 gX8_keepImage_X1_copy rfl (by decide +kernel) ⟨rfl, rfl⟩ ⟨Nat.le_of_ble_eq_true rfl, Nat.le_of_ble_eq_true rfl⟩ [1, 2] [0] rfl rfl rfl rfl (by decide) rfl rfl (Nat.le_of_ble_eq_true rfl) ⟨Nat.le_of_ble_eq_true rfl, Nat.le_of_ble_eq_true rfl⟩ dX8_keepImage_8 (fun v_8 w_8 h_8 => ?_)
  obtain ⟨f2_2, rfl, rfl, hhf_3⟩ := h_8
  refine V_to (pc' := 11) (ls' := [(0, .ref o)]) (st' := []) (ws' := [(o, .inr (7, [.ref p, .ref h, .ref sa, .ref si, .int z])), (h, .inl (Y 0, 24, .inl fa)), (si, .inl (Y 0, 24, .inl f2_2))]) ?_ rfl rfl rfl rfl
  exact V_vret X hr dX8_keepImage_11 (⟨f2_2, rfl, rfl, hhf_3⟩)

theorem in_X8_layImageBack_X8 : ∀ w ∈ wsX80, w ∈ wsX8_layImageBack := fun w h => List.mem_cons_of_mem _ (List.mem_append_right _ h)
set_option maxHeartbeats 4000000 in
set_option maxRecDepth 100000 in
theorem c_X8_layImageBack (l : Launch) (D : va_G) (Y : Nat → ClassId) (o : Nat) (p : Nat) (h : Nat) (sa : Nat) (si : Nat) (z : Int32) (fa : Nat → Int32) (fb : Nat → Int32) : Mg l yX8_layImageBack wsX8_layImageBack ({ frames := 2, cells := 0, slots := 0, locals := 85 }) D Y [(o, .inr (7, [.ref p, .ref h, .ref sa, .ref si, .int z])), (si, .inl (Y 0, 24, .inl fa)), (h, .inl (Y 0, 24, .inl fb))] [.ref o] 0 0 (fun vv__ ww__ => (∃ (f2 : Nat → Int32), vv__ = none ∧ ww__ = [(o, .inr (7, [.ref p, .ref h, .ref sa, .ref si, .int z])), (si, .inl (Y 0, 24, .inl fa)), (h, .inl (Y 0, 24, .inl f2))] ∧ (∀ j, j < 24 → f2 j = fa j))) := by
  refine Mg_of (cc := cX8_layImageBack) (maxL := 1) (ret := none) (ls0 := [(0, .ref o)]) RX8 (by decide) rfl rfl rfl (Nat.le_of_ble_eq_true rfl) (fun p__ e__ s__ m__ b__ t__ c__ X hr hn => ?_)
  refine V_aload_n X 0 rfl dX8_layImageBack_0 ?_
  refine V_get (C := RX8) (T := TX8) (N := 5) (ci := 7) (v := .ref si) X in_X8_layImageBack_X8 0 rfl rfl 3 (by decide) (List.mem_of_getElem? (i := 1) rfl) rfl rfl dX8_layImageBack_1 ?_
  refine V_aload_n X 0 rfl dX8_layImageBack_4 ?_
  refine V_get (C := RX8) (T := TX8) (N := 5) (ci := 7) (v := .ref h) X in_X8_layImageBack_X8 0 rfl rfl 1 (by decide) (List.mem_of_getElem? (i := 2) rfl) rfl rfl dX8_layImageBack_5 ?_
  refine V_callS (wr := [(o, .inr (7, [.ref p, .ref h, .ref sa, .ref si, .int z]))]) (st := []) X (c_X1_copy l D Y si h 24 fa fb (by omega)) 2 gX8_layImageBack_X1_copy rfl (by decide +kernel) ⟨rfl, rfl⟩ ⟨Nat.le_of_ble_eq_true rfl, Nat.le_of_ble_eq_true rfl⟩ [1, 2] [0] rfl rfl rfl rfl (by decide) rfl rfl (Nat.le_of_ble_eq_true rfl) ⟨Nat.le_of_ble_eq_true rfl, Nat.le_of_ble_eq_true rfl⟩ dX8_layImageBack_8 (fun v_8 w_8 h_8 => ?_)
  obtain ⟨f2_2, rfl, rfl, hhf_3⟩ := h_8
  refine V_to (pc' := 11) (ls' := [(0, .ref o)]) (st' := []) (ws' := [(o, .inr (7, [.ref p, .ref h, .ref sa, .ref si, .int z])), (si, .inl (Y 0, 24, .inl fa)), (h, .inl (Y 0, 24, .inl f2_2))]) ?_ rfl rfl rfl rfl
  exact V_vret X hr dX8_layImageBack_11 (⟨f2_2, rfl, rfl, hhf_3⟩)
