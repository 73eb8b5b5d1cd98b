
/-! ===== ACTS from outside ===== -/
theorem TRC_0 (f : Nat → Int32) : TRC f [] := fun j hj => absurd hj (Nat.not_lt_zero j)
theorem mzr_16 : ∀ K, K < 8 → ∀ a, a < 4 → mzr K a < 16 := by decide
theorem in_X0_perform_X0 : ∀ w ∈ wsX00, w ∈ wsX0_perform := fun w h => List.mem_cons_of_mem _ (List.mem_append_right _ h)
set_option maxHeartbeats 4000000 in
set_option maxRecDepth 100000 in
theorem c_X0_perform (l : Launch) (D : va_G) (Y : Nat → ClassId) (at_ : Nat) (ka : Nat) (ta : Nat) (asz : Int32) (arn : Int32) (aac : Int32) (nb_ : Nat) (b : Nat) (K : Nat) (i : Int32) (a : Nat) (w_ : Int32) (x : Int32) (fk : Nat → Int32) (fta : Nat → Int32) (tasz : asz.toInt = ((nb_ : Nat) : Int)) (hnb : nb_ ≤ 50) (hkb : 0 ≤ i.toInt → i.toInt < ((nb_ : Nat) : Int) → i.toInt = ((b : Nat) : Int) ∧ b < 50 ∧ (fk b).toInt = ((K : Nat) : Int)) (hK8 : K < 8) (haw : 0 ≤ w_.toInt → w_.toInt < 4 → w_.toInt = ((a : Nat) : Int)) : Mg l yX0_perform wsX0_perform ({ frames := 56, cells := 0, slots := 0, locals := 2223 }) D Y [(at_, .inr (0, [.ref ka, .ref ta, .int asz, .int arn, .int aac])), (ka, .inl (Y 0, 50, .inl fk)), (ta, .inl (Y 0, 24, .inl fta))] [.ref at_, .int i, .int w_, .int x] 0 0 (fun vv__ ww__ => (vv__ = some (.int (0 : Int32)) ∧ ww__ = [(at_, .inr (0, [.ref ka, .ref ta, .int asz, .int (0 : Int32), .int aac])), (ka, .inl (Y 0, 50, .inl fk)), (ta, .inl (Y 0, 24, .inl fta))] ∧ (¬ (0 ≤ i.toInt ∧ i.toInt < ((nb_ : Nat) : Int) ∧ 0 ≤ w_.toInt ∧ w_.toInt < 4))) ∨ (∃ (r : Int32), ∃ (rn2 : Int32), ∃ (ft2 : Nat → Int32), vv__ = some (.int r) ∧ ww__ = [(at_, .inr (0, [.ref ka, .ref ta, .int asz, .int rn2, .int i])), (ka, .inl (Y 0, 50, .inl fk)), (ta, .inl (Y 0, 24, .inl ft2))] ∧ (0 ≤ i.toInt ∧ i.toInt < ((nb_ : Nat) : Int) ∧ 0 ≤ w_.toInt ∧ w_.toInt < 4) ∧ (r = (aV K i 16 K a x).1) ∧ (rn2.toInt = (((aV K i 16 K a x).2.length : Nat) : Int)) ∧ (TRC ft2 (aV K i 16 K a x).2))) := by
  refine Mg_of (cc := cX0_perform) (maxL := 4) (ret := (some .int)) (ls0 := [(0, .ref at_), (1, .int i), (2, .int w_), (3, .int x)]) RX0 (by decide) rfl rfl rfl (Nat.le_of_ble_eq_true rfl) (fun p__ e__ s__ m__ b__ t__ c__ X hr hn => ?_)
  refine V_aload_n X 0 rfl dX0_perform_0 ?_
  refine V_iconst (v := (0 : Int32)) X (by decide) dX0_perform_1 ?_
  refine V_put (C := RX0) (T := TX0) (N := 5) (ci := 0) (v := .int (0 : Int32)) (ty := tyX0 3) (ws' := [(at_, .inr (0, [.ref ka, .ref ta, .int asz, .int (0 : Int32), .int aac])), (ka, .inl (Y 0, 50, .inl fk)), (ta, .inl (Y 0, 24, .inl fta))]) X in_X0_perform_X0 0 rfl rfl 3 (by decide) (List.mem_of_getElem? (i := 1) rfl) rfl tyX0 tyX0_ok nmX0 rfl (tyX0_ok 3 (by decide)) rfl rfl (Nat.le_of_ble_eq_true rfl) rfl dX0_perform_2 ?_
  refine V_aload_n X 0 rfl dX0_perform_5 ?_
  refine V_iload_n X 1 rfl dX0_perform_6 ?_
  refine V_callV (C := RX0) (wr := [(ka, .inl (Y 0, 50, .inl fk)), (ta, .inl (Y 0, 24, .inl fta))]) (st := []) X (c_X0_isBody l D Y at_ ka ta asz (0 : Int32) aac i) 1 gX0_perform_X0_isBody rfl (by decide +kernel) ⟨rfl, rfl⟩ ⟨Nat.le_of_ble_eq_true rfl, Nat.le_of_ble_eq_true rfl⟩ [0] [1, 2] rfl rfl rfl rfl (by decide) (ci := 0) rfl rfl 0 rfl rfl rfl (Nat.le_of_ble_eq_true rfl) ⟨Nat.le_of_ble_eq_true rfl, Nat.le_of_ble_eq_true rfl⟩ dX0_perform_7 (fun v_7 w_7 h_7 => ?_)
  rcases h_7 with ⟨rfl, rfl, hhy_2⟩ | ⟨rfl, rfl, hhn_3⟩
  · refine V_to (pc' := 10) (ls' := [(0, .ref at_), (1, .int i), (2, .int w_), (3, .int x)]) (st' := [.int (1 : Int32)]) (ws' := [(ka, .inl (Y 0, 50, .inl fk)), (ta, .inl (Y 0, 24, .inl fta)), (at_, .inr (0, [.ref ka, .ref ta, .int asz, .int (0 : Int32), .int aac]))]) ?_ rfl rfl rfl rfl
    refine V_if_eq X (show (1 : Int32).toInt = 1 from by decide) 21 dX0_perform_10 (by decide) (fun c_10 => absurd c_10 (by decide)) (fun _ => ?_)
    refine V_iload_n X 2 rfl dX0_perform_13 ?_
    refine V_iconst (v := (4 : Int32)) X (by decide) dX0_perform_14 ?_
    refine V_callSN (host := "TuneAndWords") (wr := [(ka, .inl (Y 0, 50, .inl fk)), (ta, .inl (Y 0, 24, .inl fta)), (at_, .inr (0, [.ref ka, .ref ta, .int asz, .int (0 : Int32), .int aac]))]) (st := []) X (c_X10_isOf l D Y w_ (4 : Int32)) 2 ggX0_perform_X10_isOf rfl (by decide +kernel) (List.mem_of_getElem? (i := 10) rfl) (List.mem_of_getElem? (i := 9) rfl) (by decide +kernel) ⟨rfl, rfl⟩ ⟨Nat.le_of_ble_eq_true rfl, Nat.le_of_ble_eq_true rfl⟩ [] [0, 1, 2] rfl rfl rfl rfl (by decide) rfl rfl (Nat.le_of_ble_eq_true rfl) ⟨Nat.le_of_ble_eq_true rfl, Nat.le_of_ble_eq_true rfl⟩ dX0_perform_15 (fun v_15 w_15 h_15 => ?_)
    rcases h_15 with ⟨rfl, rfl, hhy_5⟩ | ⟨rfl, rfl, hhn_6⟩
    · refine V_to (pc' := 18) (ls' := [(0, .ref at_), (1, .int i), (2, .int w_), (3, .int x)]) (st' := [.int (1 : Int32)]) (ws' := [(ka, .inl (Y 0, 50, .inl fk)), (ta, .inl (Y 0, 24, .inl fta)), (at_, .inr (0, [.ref ka, .ref ta, .int asz, .int (0 : Int32), .int aac]))]) ?_ rfl rfl rfl rfl
      have hc_4 : (4 : Int32).toInt = 4 := by decide
      refine V_if_ne X (show (1 : Int32).toInt = 1 from by decide) 23 dX0_perform_18 (by decide) (fun _ => ?_) (fun c_18 => absurd c_18 (by decide))
      have hbk := hkb (by omega) (by omega)
      have hwa := haw (by omega) (by omega)
      have ha4 : a < 4 := by omega
      have hm16 := mzr_16 K hK8 a ha4
      have hl20 := aV_20 hK8 ha4 i x
      refine V_aload_n X 0 rfl dX0_perform_23 ?_
      refine V_iload_n X 1 rfl dX0_perform_24 ?_
      refine V_put (C := RX0) (T := TX0) (N := 5) (ci := 0) (v := .int i) (ty := tyX0 4) (ws' := [(ka, .inl (Y 0, 50, .inl fk)), (ta, .inl (Y 0, 24, .inl fta)), (at_, .inr (0, [.ref ka, .ref ta, .int asz, .int (0 : Int32), .int i]))]) X in_X0_perform_X0 2 rfl rfl 4 (by decide) (List.mem_of_getElem? (i := 2) rfl) rfl tyX0 tyX0_ok nmX0 rfl (tyX0_ok 4 (by decide)) rfl rfl (Nat.le_of_ble_eq_true rfl) rfl dX0_perform_25 ?_
      refine V_aload_n X 0 rfl dX0_perform_28 ?_
      refine V_iload_n X 2 rfl dX0_perform_29 ?_
      refine V_iload_n X 3 rfl dX0_perform_30 ?_
      refine V_iconst (v := (0 : Int32)) X (by decide) dX0_perform_31 ?_
      refine V_callV (C := RX0) (wr := []) (st := []) X (c_X0_run_16 l D Y at_ ka ta asz (0 : Int32) i K b a x (0 : Int32) 0 ([] : List Nat) fk fta w_ (by decide) hbk.1 hbk.2.1 hbk.2.2 hK8 (TRC_0 _) hwa ha4 (by decide) hm16 (by decide) (by show 0 + _ ≤ 1000; omega)) 3 gX0_perform_X0_run rfl (by decide +kernel) ⟨rfl, rfl⟩ ⟨Nat.le_of_ble_eq_true rfl, Nat.le_of_ble_eq_true rfl⟩ [2, 0, 1] [] rfl rfl rfl rfl (by decide) (ci := 0) rfl rfl 0 rfl rfl rfl (Nat.le_of_ble_eq_true rfl) ⟨Nat.le_of_ble_eq_true rfl, Nat.le_of_ble_eq_true rfl⟩ dX0_perform_32 (fun v_32 w_32 h_32 => ?_)
      obtain ⟨r_8, rn2_9, ft2_10, rfl, rfl, hhr__11, htrn2_12, hhTR2_13⟩ := h_32
      refine V_to (pc' := 35) (ls' := [(0, .ref at_), (1, .int i), (2, .int w_), (3, .int x)]) (st' := [.int r_8]) (ws' := [(at_, .inr (0, [.ref ka, .ref ta, .int asz, .int rn2_9, .int i])), (ka, .inl (Y 0, 50, .inl fk)), (ta, .inl (Y 0, 24, .inl ft2_10))]) ?_ rfl rfl rfl rfl
      exact V_iret X hr dX0_perform_35 (Or.inr (⟨r_8, rn2_9, ft2_10, rfl, rfl, (by omega), hhr__11, htrn2_12, hhTR2_13⟩))
    · refine V_to (pc' := 18) (ls' := [(0, .ref at_), (1, .int i), (2, .int w_), (3, .int x)]) (st' := [.int (0 : Int32)]) (ws' := [(ka, .inl (Y 0, 50, .inl fk)), (ta, .inl (Y 0, 24, .inl fta)), (at_, .inr (0, [.ref ka, .ref ta, .int asz, .int (0 : Int32), .int aac]))]) ?_ rfl rfl rfl rfl
      have hc_4 : (4 : Int32).toInt = 4 := by decide
      refine V_if_ne X (show (0 : Int32).toInt = 0 from by decide) 23 dX0_perform_18 (by decide) (fun c_18 => absurd c_18 (by decide)) (fun _ => ?_)
      refine V_iconst (v := (0 : Int32)) X (by decide) dX0_perform_21 ?_
      refine V_ws (ws' := [(at_, .inr (0, [.ref ka, .ref ta, .int asz, .int (0 : Int32), .int aac])), (ka, .inl (Y 0, 50, .inl fk)), (ta, .inl (Y 0, 24, .inl fta))]) [2, 0, 1] rfl rfl rfl ?_
      exact V_iret X hr dX0_perform_22 (Or.inl ⟨rfl, rfl, (by omega)⟩)
  · refine V_to (pc' := 10) (ls' := [(0, .ref at_), (1, .int i), (2, .int w_), (3, .int x)]) (st' := [.int (0 : Int32)]) (ws' := [(ka, .inl (Y 0, 50, .inl fk)), (ta, .inl (Y 0, 24, .inl fta)), (at_, .inr (0, [.ref ka, .ref ta, .int asz, .int (0 : Int32), .int aac]))]) ?_ rfl rfl rfl rfl
    refine V_if_eq X (show (0 : Int32).toInt = 0 from by decide) 21 dX0_perform_10 (by decide) (fun _ => ?_) (fun c_10 => absurd c_10 (by decide))
    refine V_iconst (v := (0 : Int32)) X (by decide) dX0_perform_21 ?_
    refine V_ws (ws' := [(at_, .inr (0, [.ref ka, .ref ta, .int asz, .int (0 : Int32), .int aac])), (ka, .inl (Y 0, 50, .inl fk)), (ta, .inl (Y 0, 24, .inl fta))]) [2, 0, 1] rfl rfl rfl ?_
    exact V_iret X hr dX0_perform_22 (Or.inl ⟨rfl, rfl, (by omega)⟩)

theorem in_X10_act_X10 : ∀ w ∈ wsX100, w ∈ wsX10_act := fun w h => List.mem_cons_of_mem _ (List.mem_append_left _ (List.mem_append_right _ h))
set_option maxHeartbeats 4000000 in
set_option maxRecDepth 100000 in
theorem c_X10_act (l : Launch) (D : va_G) (Y : Nat → ClassId) (x_ : Nat) (sgs : Nat) (ch : Nat) (g : Nat) (tp : Nat) (d : Nat) (di : Nat) (cg : Nat) (at_ : Nat) (shs : Nat) (sl_ : Nat) (fo : Int32) (ik : Int32) (ka : Nat) (ta : Nat) (asz : Int32) (arn : Int32) (aac : Int32) (nb_ : Nat) (b : Nat) (K : Nat) (i : Int32) (a : Nat) (w_ : Int32) (x : Int32) (fk : Nat → Int32) (fta : Nat → Int32) (tasz : asz.toInt = ((nb_ : Nat) : Int)) (hnb : nb_ ≤ 50) (hkb : 0 ≤ i.toInt → i.toInt < ((nb_ : Nat) : Int) → i.toInt = ((b : Nat) : Int) ∧ b < 50 ∧ (fk b).toInt = ((K : Nat) : Int)) (hK8 : K < 8) (haw : 0 ≤ w_.toInt → w_.toInt < 4 → w_.toInt = ((a : Nat) : Int)) : Mg l yX10_act wsX10_act ({ frames := 57, cells := 0, slots := 0, locals := 2246 }) D Y [(x_, .inr (9, [.ref sgs, .ref ch, .ref g, .ref tp, .ref d, .ref di, .ref cg, .ref at_, .ref shs, .ref sl_, .int fo, .int ik])), (at_, .inr (0, [.ref ka, .ref ta, .int asz, .int arn, .int aac])), (ka, .inl (Y 0, 50, .inl fk)), (ta, .inl (Y 0, 24, .inl fta))] [.ref x_, .int i, .int w_, .int x] 0 0 (fun vv__ ww__ => (vv__ = some (.int (0 : Int32)) ∧ ww__ = [(x_, .inr (9, [.ref sgs, .ref ch, .ref g, .ref tp, .ref d, .ref di, .ref cg, .ref at_, .ref shs, .ref sl_, .int fo, .int ik])), (at_, .inr (0, [.ref ka, .ref ta, .int asz, .int (0 : Int32), .int aac])), (ka, .inl (Y 0, 50, .inl fk)), (ta, .inl (Y 0, 24, .inl fta))] ∧ (¬ (0 ≤ i.toInt ∧ i.toInt < ((nb_ : Nat) : Int) ∧ 0 ≤ w_.toInt ∧ w_.toInt < 4))) ∨ (∃ (r : Int32), ∃ (rn2 : Int32), ∃ (ft2 : Nat → Int32), vv__ = some (.int r) ∧ ww__ = [(x_, .inr (9, [.ref sgs, .ref ch, .ref g, .ref tp, .ref d, .ref di, .ref cg, .ref at_, .ref shs, .ref sl_, .int fo, .int ik])), (at_, .inr (0, [.ref ka, .ref ta, .int asz, .int rn2, .int i])), (ka, .inl (Y 0, 50, .inl fk)), (ta, .inl (Y 0, 24, .inl ft2))] ∧ (0 ≤ i.toInt ∧ i.toInt < ((nb_ : Nat) : Int) ∧ 0 ≤ w_.toInt ∧ w_.toInt < 4) ∧ (r = (aV K i 16 K a x).1) ∧ (rn2.toInt = (((aV K i 16 K a x).2.length : Nat) : Int)) ∧ (TRC ft2 (aV K i 16 K a x).2))) := by
  refine Mg_of (cc := cX10_act) (maxL := 4) (ret := (some .int)) (ls0 := [(0, .ref x_), (1, .int i), (2, .int w_), (3, .int x)]) RX10 (by decide) rfl rfl rfl (Nat.le_of_ble_eq_true rfl) (fun p__ e__ s__ m__ b__ t__ c__ X hr hn => ?_)
  refine V_aload_n X 0 rfl dX10_act_0 ?_
  refine V_get (C := RX10) (T := TX10) (N := 12) (ci := 9) (v := .ref at_) X in_X10_act_X10 0 rfl rfl 7 (by decide) (List.mem_of_getElem? (i := 1) rfl) rfl rfl dX10_act_1 ?_
  refine V_iload_n X 1 rfl dX10_act_4 ?_
  refine V_iload_n X 2 rfl dX10_act_5 ?_
  refine V_iload_n X 3 rfl dX10_act_6 ?_
  refine V_callV (C := RX0) (wr := [(x_, .inr (9, [.ref sgs, .ref ch, .ref g, .ref tp, .ref d, .ref di, .ref cg, .ref at_, .ref shs, .ref sl_, .int fo, .int ik]))]) (st := []) X (c_X0_perform l D Y at_ ka ta asz arn aac nb_ b K i a w_ x fk fta tasz hnb hkb hK8 haw) 3 gX10_act_X0_perform rfl (by decide +kernel) ⟨rfl, rfl⟩ ⟨Nat.le_of_ble_eq_true rfl, Nat.le_of_ble_eq_true rfl⟩ [1, 2, 3] [0] rfl rfl rfl rfl (by decide) (ci := 0) rfl rfl 0 rfl rfl rfl (Nat.le_of_ble_eq_true rfl) ⟨Nat.le_of_ble_eq_true rfl, Nat.le_of_ble_eq_true rfl⟩ dX10_act_7 (fun v_7 w_7 h_7 => ?_)
  rcases h_7 with ⟨rfl, rfl, hhb_2⟩ | ⟨r_3, rn2_4, ft2_5, rfl, rfl, hhv_6, hhr__7, htrn2_8, hhTR2_9⟩
  · refine V_to (pc' := 10) (ls' := [(0, .ref x_), (1, .int i), (2, .int w_), (3, .int x)]) (st' := [.int (0 : Int32)]) (ws' := [(x_, .inr (9, [.ref sgs, .ref ch, .ref g, .ref tp, .ref d, .ref di, .ref cg, .ref at_, .ref shs, .ref sl_, .int fo, .int ik])), (at_, .inr (0, [.ref ka, .ref ta, .int asz, .int (0 : Int32), .int aac])), (ka, .inl (Y 0, 50, .inl fk)), (ta, .inl (Y 0, 24, .inl fta))]) ?_ rfl rfl rfl rfl
    exact V_iret X hr dX10_act_10 (Or.inl ⟨rfl, rfl, hhb_2⟩)
  · refine V_to (pc' := 10) (ls' := [(0, .ref x_), (1, .int i), (2, .int w_), (3, .int x)]) (st' := [.int r_3]) (ws' := [(x_, .inr (9, [.ref sgs, .ref ch, .ref g, .ref tp, .ref d, .ref di, .ref cg, .ref at_, .ref shs, .ref sl_, .int fo, .int ik])), (at_, .inr (0, [.ref ka, .ref ta, .int asz, .int rn2_4, .int i])), (ka, .inl (Y 0, 50, .inl fk)), (ta, .inl (Y 0, 24, .inl ft2_5))]) ?_ rfl rfl rfl rfl
    exact V_iret X hr dX10_act_10 (Or.inr (⟨r_3, rn2_4, ft2_5, rfl, rfl, hhv_6, hhr__7, htrn2_8, hhTR2_9⟩))
