set_option maxHeartbeats 4000000 in
set_option maxRecDepth 100000 in
theorem c_J6_bitCount_0f7a4 (l : Launch) (D : va_G) (Y : Nat → ClassId) (x : Int32) (q : Nat) (tx : x.toInt = ((q : Nat) : Int)) (hq : q < 16) : Mg l yJ6_bitCount_0f7a4 wsJ6_bitCount_0f7a4 ({ frames := 0, cells := 0, slots := 0, locals := 0 }) D Y [] [.int x] 0 0 (fun vv__ ww__ => (∃ (r : Int32), vv__ = some (.int r) ∧ ww__ = [] ∧ (r.toInt = ((pc4 q : Nat) : Int)))) := by
  refine Mg_of (cc := cJ6_bitCount_0f7a4) (maxL := 1) (ret := (some .int)) (ls0 := [(0, .int x)]) RJ6 (by decide) rfl rfl rfl (Nat.le_of_ble_eq_true rfl) (fun p__ e__ s__ m__ b__ t__ c__ X hr hn => ?_)
  refine V_iload_n X 0 rfl dJ6_bitCount_0f7a4_0 ?_
  refine V_iload_n X 0 rfl dJ6_bitCount_0f7a4_1 ?_
  refine V_iconst (v := (1 : Int32)) X (by decide) dJ6_bitCount_0f7a4_2 ?_
  refine V_iushr X dJ6_bitCount_0f7a4_3 (fun x_1 ex_1 => ?_)
  refine V_ldcw (v := (1431655765 : Int32)) X (List.mem_of_getElem? (i := 1) rfl) dJ6_bitCount_0f7a4_4 ?_
  refine V_iand X dJ6_bitCount_0f7a4_7 (fun x_2 ex_2 => ?_)
  refine V_isub X dJ6_bitCount_0f7a4_8 (fun x_3 ex_3 => ?_)
  refine V_istore_n (ls' := [(0, .int x_3)]) X (by decide) rfl dJ6_bitCount_0f7a4_9 ?_
  refine V_iload_n X 0 rfl dJ6_bitCount_0f7a4_10 ?_
  refine V_ldcw (v := (858993459 : Int32)) X (List.mem_of_getElem? (i := 2) rfl) dJ6_bitCount_0f7a4_11 ?_
  refine V_iand X dJ6_bitCount_0f7a4_14 (fun x_4 ex_4 => ?_)
  refine V_iload_n X 0 rfl dJ6_bitCount_0f7a4_15 ?_
  refine V_iconst (v := (2 : Int32)) X (by decide) dJ6_bitCount_0f7a4_16 ?_
  refine V_iushr X dJ6_bitCount_0f7a4_17 (fun x_5 ex_5 => ?_)
  refine V_ldcw (v := (858993459 : Int32)) X (List.mem_of_getElem? (i := 2) rfl) dJ6_bitCount_0f7a4_18 ?_
  refine V_iand X dJ6_bitCount_0f7a4_21 (fun x_6 ex_6 => ?_)
  refine V_iadd X dJ6_bitCount_0f7a4_22 (fun x_7 ex_7 => ?_)
  refine V_istore_n (ls' := [(0, .int x_7)]) X (by decide) rfl dJ6_bitCount_0f7a4_23 ?_
  refine V_iload_n X 0 rfl dJ6_bitCount_0f7a4_24 ?_
  refine V_iload_n X 0 rfl dJ6_bitCount_0f7a4_25 ?_
  refine V_iconst (v := (4 : Int32)) X (by decide) dJ6_bitCount_0f7a4_26 ?_
  refine V_iushr X dJ6_bitCount_0f7a4_27 (fun x_8 ex_8 => ?_)
  refine V_iadd X dJ6_bitCount_0f7a4_28 (fun x_9 ex_9 => ?_)
  refine V_ldcw (v := (252645135 : Int32)) X (List.mem_of_getElem? (i := 3) rfl) dJ6_bitCount_0f7a4_29 ?_
  refine V_iand X dJ6_bitCount_0f7a4_32 (fun x_10 ex_10 => ?_)
  refine V_istore_n (ls' := [(0, .int x_10)]) X (by decide) rfl dJ6_bitCount_0f7a4_33 ?_
  refine V_iload_n X 0 rfl dJ6_bitCount_0f7a4_34 ?_
  refine V_iload_n X 0 rfl dJ6_bitCount_0f7a4_35 ?_
  refine V_bipush (v := (8 : Int32)) X (by decide) dJ6_bitCount_0f7a4_36 ?_
  refine V_iushr X dJ6_bitCount_0f7a4_38 (fun x_11 ex_11 => ?_)
  refine V_iadd X dJ6_bitCount_0f7a4_39 (fun x_12 ex_12 => ?_)
  refine V_istore_n (ls' := [(0, .int x_12)]) X (by decide) rfl dJ6_bitCount_0f7a4_40 ?_
  refine V_iload_n X 0 rfl dJ6_bitCount_0f7a4_41 ?_
  refine V_iload_n X 0 rfl dJ6_bitCount_0f7a4_42 ?_
  refine V_bipush (v := (16 : Int32)) X (by decide) dJ6_bitCount_0f7a4_43 ?_
  refine V_iushr X dJ6_bitCount_0f7a4_45 (fun x_13 ex_13 => ?_)
  refine V_iadd X dJ6_bitCount_0f7a4_46 (fun x_14 ex_14 => ?_)
  refine V_istore_n (ls' := [(0, .int x_14)]) X (by decide) rfl dJ6_bitCount_0f7a4_47 ?_
  refine V_iload_n X 0 rfl dJ6_bitCount_0f7a4_48 ?_
  refine V_bipush (v := (63 : Int32)) X (by decide) dJ6_bitCount_0f7a4_49 ?_
  refine V_iand X dJ6_bitCount_0f7a4_51 (fun x_15 ex_15 => ?_)
  exact V_iret X hr dJ6_bitCount_0f7a4_52 (⟨x_15, rfl, rfl, (by rw [ex_15, ex_14, ex_13, ex_12, ex_11, ex_10, ex_9, ex_8, ex_7, ex_6, ex_5, ex_4, ex_3, ex_2, ex_1, i_of tx (by omega)]; clear tx; rcases (by omega : q = 0 ∨ q = 1 ∨ q = 2 ∨ q = 3 ∨ q = 4 ∨ q = 5 ∨ q = 6 ∨ q = 7 ∨ q = 8 ∨ q = 9 ∨ q = 10 ∨ q = 11 ∨ q = 12 ∨ q = 13 ∨ q = 14 ∨ q = 15) with rfl | rfl | rfl | rfl | rfl | rfl | rfl | rfl | rfl | rfl | rfl | rfl | rfl | rfl | rfl | rfl <;> decide +kernel)⟩)

theorem in_X8_bitsHad_X8 : ∀ w ∈ wsX80, w ∈ wsX8_bitsHad := fun w h => List.mem_cons_of_mem _ (List.mem_append_right _ h)
set_option maxHeartbeats 4000000 in
set_option maxRecDepth 100000 in
theorem c_X8_bitsHad (l : Launch) (D : va_G) (Y : Nat → ClassId) (o : Nat) (p : Nat) (h : Nat) (sa : Nat) (si : Nat) (z : Int32) (fh : Nat → Int32) (B : Nat → Bool) (hH : HV fh B) : Mg l yX8_bitsHad wsX8_bitsHad ({ frames := 1, cells := 0, slots := 0, locals := 20 }) D Y [(o, .inr (7, [.ref p, .ref h, .ref sa, .ref si, .int z])), (h, .inl (Y 0, 24, .inl fh))] [.ref o] 0 0 (fun vv__ ww__ => (∃ (r : Int32), vv__ = some (.int r) ∧ ww__ = [(o, .inr (7, [.ref p, .ref h, .ref sa, .ref si, .int z])), (h, .inl (Y 0, 24, .inl fh))] ∧ (r.toInt = ((cnB B 24 : Nat) : Int)))) := by
  refine Mg_of (cc := cX8_bitsHad) (maxL := 3) (ret := (some .int)) (ls0 := [(0, .ref o)]) RX8 (by decide) rfl rfl rfl (Nat.le_of_ble_eq_true rfl) (fun p__ e__ s__ m__ b__ t__ c__ X hr hn => ?_)
  refine V_iconst (v := (0 : Int32)) X (by decide) dX8_bitsHad_0 ?_
  refine V_istore_n (ls' := [(1, .int (0 : Int32)), (0, .ref o)]) X (by decide) rfl dX8_bitsHad_1 ?_
  refine V_iconst (v := (0 : Int32)) X (by decide) dX8_bitsHad_2 ?_
  refine V_istore_n (ls' := [(2, .int (0 : Int32)), (1, .int (0 : Int32)), (0, .ref o)]) X (by decide) rfl dX8_bitsHad_3 ?_
  refine V_ls (ls' := [(0, .ref o), (1, .int (0 : Int32)), (2, .int (0 : Int32))]) [2, 1, 0] rfl ?_
  refine V_to (V_ind3 (fun (x1 : Int32) (i2 : Int32) (k : Nat) => (x1.toInt = (((cnB B k) : Nat) : Int)) ∧ (i2.toInt = ((k : Nat) : Int)) ∧ (k ≤ 24)) (fun (x1 : Int32) (i2 : Int32) (k : Nat) => 24 - k) (fun (x1 : Int32) (i2 : Int32) (k : Nat) => [(0, .ref o), (1, .int x1), (2, .int i2)]) (fun (x1 : Int32) (i2 : Int32) (k : Nat) => [(o, .inr (7, [.ref p, .ref h, .ref sa, .ref si, .int z])), (h, .inl (Y 0, 24, .inl fh))]) (fun x1 i2 k hI_4 ih_4 => ?_) (0 : Int32) (0 : Int32) 0 ?_) rfl rfl rfl rfl
  · obtain ⟨tx1, ti2, hk⟩ := hI_4
    refine V_to (ls' := [(0, .ref o), (1, .int x1), (2, .int i2)]) (ws' := [(o, .inr (7, [.ref p, .ref h, .ref sa, .ref si, .int z])), (h, .inl (Y 0, 24, .inl fh))]) ?_ rfl rfl rfl rfl
    refine V_iload_n X 2 rfl dX8_bitsHad_4 ?_
    refine V_aload_n X 0 rfl dX8_bitsHad_5 ?_
    refine V_get (C := RX8) (T := TX8) (N := 5) (ci := 7) (v := .ref h) X in_X8_bitsHad_X8 0 rfl rfl 1 (by decide) (List.mem_of_getElem? (i := 1) rfl) rfl rfl dX8_bitsHad_6 ?_
    refine V_alen (v := (24 : Int32)) X 1 0 rfl rfl rfl dX8_bitsHad_9 ?_
    refine V_icmp_ge X ti2 (show (24 : Int32).toInt = 24 from by decide) 31 dX8_bitsHad_10 (by decide) (fun c_10 => ?_) (fun c_10 => ?_)
    · refine V_iload_n X 1 rfl dX8_bitsHad_31 ?_
      exact V_iret X hr dX8_bitsHad_32 (⟨x1, rfl, rfl, (by have h9 : k = 24 := (by omega); subst h9; exact tx1)⟩)
    · have hcb : cnB B k ≤ 4 * k := cnB_le B k
      obtain ⟨q, hq, tq, hqe⟩ := HV_num hH (show k < 24 by omega)
      have htb := tb4_le B k
      refine V_iload_n X 1 rfl dX8_bitsHad_13 ?_
      refine V_aload_n X 0 rfl dX8_bitsHad_14 ?_
      refine V_get (C := RX8) (T := TX8) (N := 5) (ci := 7) (v := .ref h) X in_X8_bitsHad_X8 0 rfl rfl 1 (by decide) (List.mem_of_getElem? (i := 1) rfl) rfl rfl dX8_bitsHad_15 ?_
      refine V_iload_n X 2 rfl dX8_bitsHad_18 ?_
      refine V_iald X 1 k rfl ti2 (by omega) dX8_bitsHad_19 ?_
      refine V_nm (fun x_1 ex_1 => ?_)
      have tx_1 : x_1.toInt = ((q : Nat) : Int) := by rw [ex_1]; exact tq
      refine V_callS (wr := [(o, .inr (7, [.ref p, .ref h, .ref sa, .ref si, .int z])), (h, .inl (Y 0, 24, .inl fh))]) (st := [.int x1]) X (c_J6_bitCount_0f7a4 l D Y x_1 q tx_1 (by omega)) 1 gX8_bitsHad_J6_bitCount_0f7a4 rfl (by decide +kernel) ⟨rfl, rfl⟩ ⟨Nat.le_of_ble_eq_true rfl, Nat.le_of_ble_eq_true rfl⟩ [] [0, 1] rfl rfl rfl rfl (by decide) rfl rfl (Nat.le_of_ble_eq_true rfl) ⟨Nat.le_of_ble_eq_true rfl, Nat.le_of_ble_eq_true rfl⟩ dX8_bitsHad_20 (fun v_20 w_20 h_20 => ?_)
      obtain ⟨r_3, rfl, rfl, htr_4⟩ := h_20
      refine V_to (pc' := 23) (ls' := [(0, .ref o), (1, .int x1), (2, .int i2)]) (st' := [.int r_3, .int x1]) (ws' := [(o, .inr (7, [.ref p, .ref h, .ref sa, .ref si, .int z])), (h, .inl (Y 0, 24, .inl fh))]) ?_ rfl rfl rfl rfl
      refine V_iaddZ X tx1 htr_4 (by omega) (by omega) dX8_bitsHad_23 (fun x_5 ex_5 tx_5 => ?_)
      have tx_5 : x_5.toInt = (((cnB B k + pc4 q) : Nat) : Int) := by omega
      refine V_istore_n (ls' := [(1, .int x_5), (0, .ref o), (2, .int i2)]) X (by decide) rfl dX8_bitsHad_24 ?_
      refine V_iincZ X (fun vv_ => [(2, .int vv_), (1, .int x_5), (0, .ref o)]) ti2 (by omega) (by omega) (by decide) 2 rfl (by decide) (fun _ => rfl) dX8_bitsHad_25 (fun x_6 ex_6 tx_6 => ?_)
      have tx_6 : x_6.toInt = (((k + 1) : Nat) : Int) := by omega
      refine V_goto X 4 (by decide) dX8_bitsHad_28 ?_
      refine V_ls (ls' := [(0, .ref o), (1, .int x_5), (2, .int x_6)]) [2, 1, 0] rfl ?_
      exact V_to (ih_4 x_5 x_6 (k + 1) ⟨(by show _ = ((cnB B k + tb4 B k : Nat) : Int); rw [← hqe]; omega), (by omega), (by omega)⟩ (by omega)) rfl rfl rfl rfl
  · exact ⟨(by show (0 : Int32).toInt = 0; decide), (by have h9 : (0 : Int32).toInt = 0 := (show (0 : Int32).toInt = 0 from by decide); omega), (by omega)⟩

theorem in_X8_tunesHad_X8 : ∀ w ∈ wsX80, w ∈ wsX8_tunesHad := fun w h => List.mem_cons_of_mem _ (List.mem_append_right _ h)
set_option maxHeartbeats 4000000 in
set_option maxRecDepth 100000 in
theorem c_X8_tunesHad (l : Launch) (D : va_G) (Y : Nat → ClassId) (o : Nat) (p : Nat) (h : Nat) (sa : Nat) (si : Nat) (z : Int32) (n : Nat) (fp : Nat → Int32) (T : Nat → Nat) (fh : Nat → Int32) (B : Nat → Bool) (tz : z.toInt = ((n : Nat) : Int)) (hn12 : n ≤ 12) (hT : PT fp T) (hH : HV fh B) : Mg l yX8_tunesHad wsX8_tunesHad ({ frames := 2, cells := 0, slots := 0, locals := 43 }) D Y [(o, .inr (7, [.ref p, .ref h, .ref sa, .ref si, .int z])), (p, .inl (Y 0, 36, .inl fp)), (h, .inl (Y 0, 24, .inl fh))] [.ref o] 0 0 (fun vv__ ww__ => (∃ (r : Int32), vv__ = some (.int r) ∧ ww__ = [(o, .inr (7, [.ref p, .ref h, .ref sa, .ref si, .int z])), (p, .inl (Y 0, 36, .inl fp)), (h, .inl (Y 0, 24, .inl fh))] ∧ (∀ i, i < 32 → bt r i = tnB T B n i))) := by
  refine Mg_of (cc := cX8_tunesHad) (maxL := 3) (ret := (some .int)) (ls0 := [(0, .ref o)]) RX8 (by decide) rfl rfl rfl (Nat.le_of_ble_eq_true rfl) (fun p__ e__ s__ m__ b__ t__ c__ X hr hn => ?_)
  refine V_iconst (v := (0 : Int32)) X (by decide) dX8_tunesHad_0 ?_
  refine V_istore_n (ls' := [(1, .int (0 : Int32)), (0, .ref o)]) X (by decide) rfl dX8_tunesHad_1 ?_
  refine V_iconst (v := (0 : Int32)) X (by decide) dX8_tunesHad_2 ?_
  refine V_istore_n (ls' := [(2, .int (0 : Int32)), (1, .int (0 : Int32)), (0, .ref o)]) X (by decide) rfl dX8_tunesHad_3 ?_
  refine V_ls (ls' := [(0, .ref o), (1, .int (0 : Int32)), (2, .int (0 : Int32))]) [2, 1, 0] rfl ?_
  refine V_to (V_ind3 (fun (x1 : Int32) (i2 : Int32) (k : Nat) => (i2.toInt = ((k : Nat) : Int)) ∧ (k ≤ n) ∧ (∀ i, i < 32 → bt x1 i = tnB T B k i)) (fun (x1 : Int32) (i2 : Int32) (k : Nat) => n - k) (fun (x1 : Int32) (i2 : Int32) (k : Nat) => [(0, .ref o), (1, .int x1), (2, .int i2)]) (fun (x1 : Int32) (i2 : Int32) (k : Nat) => [(o, .inr (7, [.ref p, .ref h, .ref sa, .ref si, .int z])), (p, .inl (Y 0, 36, .inl fp)), (h, .inl (Y 0, 24, .inl fh))]) (fun x1 i2 k hI_4 ih_4 => ?_) (0 : Int32) (0 : Int32) 0 ?_) rfl rfl rfl rfl
  · obtain ⟨ti2, hk, hx⟩ := hI_4
    refine V_to (ls' := [(0, .ref o), (1, .int x1), (2, .int i2)]) (ws' := [(o, .inr (7, [.ref p, .ref h, .ref sa, .ref si, .int z])), (p, .inl (Y 0, 36, .inl fp)), (h, .inl (Y 0, 24, .inl fh))]) ?_ rfl rfl rfl rfl
    refine V_iload_n X 2 rfl dX8_tunesHad_4 ?_
    refine V_aload_n X 0 rfl dX8_tunesHad_5 ?_
    refine V_get (C := RX8) (T := TX8) (N := 5) (ci := 7) (v := .int z) X in_X8_tunesHad_X8 0 rfl rfl 4 (by decide) (List.mem_of_getElem? (i := 1) rfl) rfl rfl dX8_tunesHad_6 ?_
    refine V_icmp_ge X ti2 tz 38 dX8_tunesHad_9 (by decide) (fun c_9 => ?_) (fun c_9 => ?_)
    · refine V_iload_n X 1 rfl dX8_tunesHad_38 ?_
      exact V_iret X hr dX8_tunesHad_39 (⟨x1, rfl, rfl, (fun i hi => by rw [hx i hi, show k = n by omega])⟩)
    · refine V_aload_n X 0 rfl dX8_tunesHad_12 ?_
      refine V_iload_n X 2 rfl dX8_tunesHad_13 ?_
      refine V_iconst (v := (0 : Int32)) X (by decide) dX8_tunesHad_14 ?_
      refine V_callV (C := RX8) (wr := [(p, .inl (Y 0, 36, .inl fp))]) (st := []) X (c_X8_havers l D Y o p h sa si z i2 k (0 : Int32) 0 fh ti2 (by have h9 : (0 : Int32).toInt = 0 := (show (0 : Int32).toInt = 0 from by decide); omega) (by omega) (by omega)) 2 gX8_tunesHad_X8_havers rfl (by decide +kernel) ⟨rfl, rfl⟩ ⟨Nat.le_of_ble_eq_true rfl, Nat.le_of_ble_eq_true rfl⟩ [0, 2] [1] rfl rfl rfl rfl (by decide) (ci := 7) rfl rfl 0 rfl rfl rfl (Nat.le_of_ble_eq_true rfl) ⟨Nat.le_of_ble_eq_true rfl, Nat.le_of_ble_eq_true rfl⟩ dX8_tunesHad_15 (fun v_15 w_15 h_15 => ?_)
      obtain ⟨rfl, rfl⟩ := h_15
      refine V_to (pc' := 18) (ls' := [(0, .ref o), (1, .int x1), (2, .int i2)]) (st' := [.int (fh (2 * k + 0))]) (ws' := [(p, .inl (Y 0, 36, .inl fp)), (o, .inr (7, [.ref p, .ref h, .ref sa, .ref si, .int z])), (h, .inl (Y 0, 24, .inl fh))]) ?_ rfl rfl rfl rfl
      refine V_if_eq X rfl 32 dX8_tunesHad_18 (by decide) (fun c_18 => ?_) (fun c_18 => ?_)
      · refine V_iincZ X (fun vv_ => [(2, .int vv_), (0, .ref o), (1, .int x1)]) ti2 (by omega) (by omega) (by decide) 2 rfl (by decide) (fun _ => rfl) dX8_tunesHad_32 (fun x_2 ex_2 tx_2 => ?_)
        have tx_2 : x_2.toInt = (((k + 1) : Nat) : Int) := by omega
        refine V_goto X 4 (by decide) dX8_tunesHad_35 ?_
        refine V_ls (ls' := [(0, .ref o), (1, .int x1), (2, .int x_2)]) [1, 2, 0] rfl ?_
        refine V_ws (ws' := [(o, .inr (7, [.ref p, .ref h, .ref sa, .ref si, .int z])), (p, .inl (Y 0, 36, .inl fp)), (h, .inl (Y 0, 24, .inl fh))]) [1, 0, 2] rfl rfl rfl ?_
        exact V_to (ih_4 x1 x_2 (k + 1) ⟨(by omega), (by omega), (tnB_n hx (any_n hH (by omega) c_18))⟩ (by omega)) rfl rfl rfl rfl
      · refine V_iload_n X 1 rfl dX8_tunesHad_21 ?_
        refine V_iconst (v := (1 : Int32)) X (by decide) dX8_tunesHad_22 ?_
        refine V_aload_n X 0 rfl dX8_tunesHad_23 ?_
        refine V_iload_n X 2 rfl dX8_tunesHad_24 ?_
        refine V_iconst (v := (0 : Int32)) X (by decide) dX8_tunesHad_25 ?_
        refine V_callV (C := RX8) (wr := [(h, .inl (Y 0, 24, .inl fh))]) (st := [.int (1 : Int32), .int x1]) X (c_X8_partT l D Y o p h sa si z i2 k (0 : Int32) 0 fp T ti2 (by have h9 : (0 : Int32).toInt = 0 := (show (0 : Int32).toInt = 0 from by decide); omega) (by omega) (by omega) hT) 2 gX8_tunesHad_X8_part rfl (by decide +kernel) ⟨rfl, rfl⟩ ⟨Nat.le_of_ble_eq_true rfl, Nat.le_of_ble_eq_true rfl⟩ [1, 0] [2] rfl rfl rfl rfl (by decide) (ci := 7) rfl rfl 0 rfl rfl rfl (Nat.le_of_ble_eq_true rfl) ⟨Nat.le_of_ble_eq_true rfl, Nat.le_of_ble_eq_true rfl⟩ dX8_tunesHad_26 (fun v_26 w_26 h_26 => ?_)
        obtain ⟨r_4, rfl, rfl, htr_5, hh8_6⟩ := h_26
        refine V_to (pc' := 29) (ls' := [(0, .ref o), (1, .int x1), (2, .int i2)]) (st' := [.int r_4, .int (1 : Int32), .int x1]) (ws' := [(h, .inl (Y 0, 24, .inl fh)), (o, .inr (7, [.ref p, .ref h, .ref sa, .ref si, .int z])), (p, .inl (Y 0, 36, .inl fp))]) ?_ rfl rfl rfl rfl
        refine V_ishl X dX8_tunesHad_29 (fun x_7 ex_7 => ?_)
        have hone : ∀ i, i < 32 → bt x_7 i = decide (i = T (3 * k + 0)) := fun i hi => b_one ex_7 htr_5 (by omega) hi
        refine V_ior X dX8_tunesHad_30 (fun x_8 ex_8 => ?_)
        refine V_istore_n (ls' := [(1, .int x_8), (0, .ref o), (2, .int i2)]) X (by decide) rfl dX8_tunesHad_31 ?_
        refine V_iincZ X (fun vv_ => [(2, .int vv_), (1, .int x_8), (0, .ref o)]) ti2 (by omega) (by omega) (by decide) 2 rfl (by decide) (fun _ => rfl) dX8_tunesHad_32 (fun x_9 ex_9 tx_9 => ?_)
        have tx_9 : x_9.toInt = (((k + 1) : Nat) : Int) := by omega
        refine V_goto X 4 (by decide) dX8_tunesHad_35 ?_
        refine V_ls (ls' := [(0, .ref o), (1, .int x_8), (2, .int x_9)]) [2, 1, 0] rfl ?_
        refine V_ws (ws' := [(o, .inr (7, [.ref p, .ref h, .ref sa, .ref si, .int z])), (p, .inl (Y 0, 36, .inl fp)), (h, .inl (Y 0, 24, .inl fh))]) [1, 2, 0] rfl rfl rfl ?_
        exact V_to (ih_4 x_8 x_9 (k + 1) ⟨(by omega), (by omega), (tnB_y hx (any_y hH (by omega) c_18) hone ex_8)⟩ (by omega)) rfl rfl rfl rfl
  · exact ⟨(by have h9 : (0 : Int32).toInt = 0 := (show (0 : Int32).toInt = 0 from by decide); omega), (by omega), (fun i _ => b_0 i)⟩

theorem in_X8_placeOf_X8 : ∀ w ∈ wsX80, w ∈ wsX8_placeOf := fun w h => List.mem_cons_of_mem _ (List.mem_append_left _ (List.mem_append_right _ h))
set_option maxHeartbeats 4000000 in
set_option maxRecDepth 100000 in
theorem c_X8_placeOf (l : Launch) (D : va_G) (Y : Nat → ClassId) (o : Nat) (p : Nat) (h : Nat) (sa : Nat) (si : Nat) (z : Int32) (n : Nat) (s1 : Nat) (c : Nat) (hd : Int32) (bd : Int32) (so : Int32) (le : Int32) (m_ : Nat) (fp : Nat → Int32) (T : Nat → Nat) (fc : Nat → Int64) (tz : z.toInt = ((n : Nat) : Int)) (hn12 : n ≤ 12) (hT : PT fp T) (tle : le.toInt = ((m_ : Nat) : Int)) (hm : m_ ≤ 60) : Mg l yX8_placeOf wsX8_placeOf ({ frames := 2, cells := 0, slots := 0, locals := 43 }) D Y [(o, .inr (7, [.ref p, .ref h, .ref sa, .ref si, .int z])), (p, .inl (Y 0, 36, .inl fp)), (s1, .inr (5, [.ref c, .int hd, .int bd, .int so, .int le])), (c, .inl (Y 1, 60, .inr (.inl fc)))] [.ref o, .ref s1] 0 0 (fun vv__ ww__ => (∃ (r : Int32), vv__ = some (.int r) ∧ ww__ = [(o, .inr (7, [.ref p, .ref h, .ref sa, .ref si, .int z])), (p, .inl (Y 0, 36, .inl fp)), (s1, .inr (5, [.ref c, .int hd, .int bd, .int so, .int le])), (c, .inl (Y 1, 60, .inr (.inl fc)))] ∧ (PLc T (fun j => ((fc j).toInt32).toInt) m_ n r.toInt))) := by
  refine Mg_of (cc := cX8_placeOf) (maxL := 4) (ret := (some .int)) (ls0 := [(0, .ref o), (1, .ref s1)]) RX8 (by decide) rfl rfl rfl (Nat.le_of_ble_eq_true rfl) (fun p__ e__ s__ m__ b__ t__ c__ X hr hn => ?_)
  refine V_iconst (v := (0 : Int32)) X (by decide) dX8_placeOf_0 ?_
  refine V_istore_n (ls' := [(2, .int (0 : Int32)), (0, .ref o), (1, .ref s1)]) X (by decide) rfl dX8_placeOf_1 ?_
  refine V_ls (ls' := [(0, .ref o), (1, .ref s1), (2, .int (0 : Int32))]) [1, 2, 0] rfl ?_
  refine V_to (V_ind2 (fun (i2 : Int32) (ln : Nat) => (i2.toInt = ((ln : Nat) : Int)) ∧ (ln ≤ n + 1) ∧ (∀ q, q < ln → ¬ mtc T (fun j => ((fc j).toInt32).toInt) m_ q)) (fun (i2 : Int32) (ln : Nat) => n + 1 - ln) (fun (i2 : Int32) (ln : Nat) => [(0, .ref o), (1, .ref s1), (2, .int i2)]) (fun (i2 : Int32) (ln : Nat) => [(o, .inr (7, [.ref p, .ref h, .ref sa, .ref si, .int z])), (p, .inl (Y 0, 36, .inl fp)), (s1, .inr (5, [.ref c, .int hd, .int bd, .int so, .int le])), (c, .inl (Y 1, 60, .inr (.inl fc)))]) (fun i2 ln hI_2 ih_2 => ?_) (0 : Int32) 0 ?_) rfl rfl rfl rfl
  · obtain ⟨ti2, hln, hno⟩ := hI_2
    refine V_to (ls' := [(0, .ref o), (1, .ref s1), (2, .int i2)]) (ws' := [(o, .inr (7, [.ref p, .ref h, .ref sa, .ref si, .int z])), (p, .inl (Y 0, 36, .inl fp)), (s1, .inr (5, [.ref c, .int hd, .int bd, .int so, .int le])), (c, .inl (Y 1, 60, .inr (.inl fc)))]) ?_ rfl rfl rfl rfl
    refine V_iload_n X 2 rfl dX8_placeOf_2 ?_
    refine V_aload_n X 1 rfl dX8_placeOf_3 ?_
    refine V_callV (C := RX6) (wr := [(o, .inr (7, [.ref p, .ref h, .ref sa, .ref si, .int z])), (p, .inl (Y 0, 36, .inl fp)), (c, .inl (Y 1, 60, .inr (.inl fc)))]) (st := [.int i2]) X (c_X6_length l D Y s1 c hd bd so le) 0 gX8_placeOf_X6_length rfl (by decide +kernel) ⟨rfl, rfl⟩ ⟨Nat.le_of_ble_eq_true rfl, Nat.le_of_ble_eq_true rfl⟩ [2] [0, 1, 3] rfl rfl rfl rfl (by decide) (ci := 5) rfl rfl 0 rfl rfl rfl (Nat.le_of_ble_eq_true rfl) ⟨Nat.le_of_ble_eq_true rfl, Nat.le_of_ble_eq_true rfl⟩ dX8_placeOf_4 (fun v_4 w_4 h_4 => ?_)
    obtain ⟨rfl, rfl⟩ := h_4
    refine V_to (pc' := 7) (ls' := [(0, .ref o), (1, .ref s1), (2, .int i2)]) (st' := [.int le, .int i2]) (ws' := [(o, .inr (7, [.ref p, .ref h, .ref sa, .ref si, .int z])), (p, .inl (Y 0, 36, .inl fp)), (c, .inl (Y 1, 60, .inr (.inl fc))), (s1, .inr (5, [.ref c, .int hd, .int bd, .int so, .int le]))]) ?_ rfl rfl rfl rfl
    refine V_iaddZ X ti2 rfl (by omega) (by omega) dX8_placeOf_7 (fun x_2 ex_2 tx_2 => ?_)
    refine V_aload_n X 0 rfl dX8_placeOf_8 ?_
    refine V_get (C := RX8) (T := TX8) (N := 5) (ci := 7) (v := .int z) X in_X8_placeOf_X8 0 rfl rfl 4 (by decide) (List.mem_of_getElem? (i := 1) rfl) rfl rfl dX8_placeOf_9 ?_
    refine V_icmp_gt X rfl tz 63 dX8_placeOf_12 (by decide) (fun c_12 => ?_) (fun c_12 => ?_)
    · refine V_bipush (v := (-2 : Int32)) X (by decide) dX8_placeOf_63 ?_
      refine V_ws (ws' := [(o, .inr (7, [.ref p, .ref h, .ref sa, .ref si, .int z])), (p, .inl (Y 0, 36, .inl fp)), (s1, .inr (5, [.ref c, .int hd, .int bd, .int so, .int le])), (c, .inl (Y 1, 60, .inr (.inl fc)))]) [0, 1, 3, 2] rfl rfl rfl ?_
      exact V_iret X hr dX8_placeOf_65 (⟨(-2 : Int32), rfl, rfl, (Or.inr ⟨by decide, fun q hq => hno q (by omega)⟩)⟩)
    · refine V_iconst (v := (0 : Int32)) X (by decide) dX8_placeOf_15 ?_
      refine V_istore_n (ls' := [(3, .int (0 : Int32)), (0, .ref o), (1, .ref s1), (2, .int i2)]) X (by decide) rfl dX8_placeOf_16 ?_
      refine V_ls (ls' := [(0, .ref o), (1, .ref s1), (2, .int i2), (3, .int (0 : Int32))]) [1, 2, 3, 0] rfl ?_
      refine V_ws (ws' := [(o, .inr (7, [.ref p, .ref h, .ref sa, .ref si, .int z])), (p, .inl (Y 0, 36, .inl fp)), (s1, .inr (5, [.ref c, .int hd, .int bd, .int so, .int le])), (c, .inl (Y 1, 60, .inr (.inl fc)))]) [0, 1, 3, 2] rfl rfl rfl ?_
      refine V_to (V_ind2 (fun (i3 : Int32) (j : Nat) => (i3.toInt = ((j : Nat) : Int)) ∧ (j ≤ m_) ∧ (∀ q, q < j → ((T (3 * (ln + q) + 0) : Nat) : Int) = (fun j => ((fc j).toInt32).toInt) q)) (fun (i3 : Int32) (j : Nat) => m_ - j) (fun (i3 : Int32) (j : Nat) => [(0, .ref o), (1, .ref s1), (2, .int i2), (3, .int i3)]) (fun (i3 : Int32) (j : Nat) => [(o, .inr (7, [.ref p, .ref h, .ref sa, .ref si, .int z])), (p, .inl (Y 0, 36, .inl fp)), (s1, .inr (5, [.ref c, .int hd, .int bd, .int so, .int le])), (c, .inl (Y 1, 60, .inr (.inl fc)))]) (fun i3 j hI_17 ih_17 => ?_) (0 : Int32) 0 ?_) rfl rfl rfl rfl
      · obtain ⟨ti3, hj, hma⟩ := hI_17
        refine V_to (ls' := [(0, .ref o), (1, .ref s1), (2, .int i2), (3, .int i3)]) (ws' := [(o, .inr (7, [.ref p, .ref h, .ref sa, .ref si, .int z])), (p, .inl (Y 0, 36, .inl fp)), (s1, .inr (5, [.ref c, .int hd, .int bd, .int so, .int le])), (c, .inl (Y 1, 60, .inr (.inl fc)))]) ?_ rfl rfl rfl rfl
        refine V_iload_n X 3 rfl dX8_placeOf_17 ?_
        refine V_aload_n X 1 rfl dX8_placeOf_18 ?_
        refine V_callV (C := RX6) (wr := [(o, .inr (7, [.ref p, .ref h, .ref sa, .ref si, .int z])), (p, .inl (Y 0, 36, .inl fp)), (c, .inl (Y 1, 60, .inr (.inl fc)))]) (st := [.int i3]) X (c_X6_length l D Y s1 c hd bd so le) 0 gX8_placeOf_X6_length rfl (by decide +kernel) ⟨rfl, rfl⟩ ⟨Nat.le_of_ble_eq_true rfl, Nat.le_of_ble_eq_true rfl⟩ [2] [0, 1, 3] rfl rfl rfl rfl (by decide) (ci := 5) rfl rfl 0 rfl rfl rfl (Nat.le_of_ble_eq_true rfl) ⟨Nat.le_of_ble_eq_true rfl, Nat.le_of_ble_eq_true rfl⟩ dX8_placeOf_19 (fun v_19 w_19 h_19 => ?_)
        obtain ⟨rfl, rfl⟩ := h_19
        refine V_to (pc' := 22) (ls' := [(0, .ref o), (1, .ref s1), (2, .int i2), (3, .int i3)]) (st' := [.int le, .int i3]) (ws' := [(o, .inr (7, [.ref p, .ref h, .ref sa, .ref si, .int z])), (p, .inl (Y 0, 36, .inl fp)), (c, .inl (Y 1, 60, .inr (.inl fc))), (s1, .inr (5, [.ref c, .int hd, .int bd, .int so, .int le]))]) ?_ rfl rfl rfl rfl
        refine V_icmp_ge X ti3 rfl 47 dX8_placeOf_22 (by decide) (fun c_22 => ?_) (fun c_22 => ?_)
        · refine V_iload_n X 3 rfl dX8_placeOf_47 ?_
          refine V_aload_n X 1 rfl dX8_placeOf_48 ?_
          refine V_callV (C := RX6) (wr := [(o, .inr (7, [.ref p, .ref h, .ref sa, .ref si, .int z])), (p, .inl (Y 0, 36, .inl fp)), (c, .inl (Y 1, 60, .inr (.inl fc)))]) (st := [.int i3]) X (c_X6_length l D Y s1 c hd bd so le) 0 gX8_placeOf_X6_length rfl (by decide +kernel) ⟨rfl, rfl⟩ ⟨Nat.le_of_ble_eq_true rfl, Nat.le_of_ble_eq_true rfl⟩ [3] [0, 1, 2] rfl rfl rfl rfl (by decide) (ci := 5) rfl rfl 0 rfl rfl rfl (Nat.le_of_ble_eq_true rfl) ⟨Nat.le_of_ble_eq_true rfl, Nat.le_of_ble_eq_true rfl⟩ dX8_placeOf_49 (fun v_49 w_49 h_49 => ?_)
          obtain ⟨rfl, rfl⟩ := h_49
          refine V_to (pc' := 52) (ls' := [(0, .ref o), (1, .ref s1), (2, .int i2), (3, .int i3)]) (st' := [.int le, .int i3]) (ws' := [(o, .inr (7, [.ref p, .ref h, .ref sa, .ref si, .int z])), (p, .inl (Y 0, 36, .inl fp)), (c, .inl (Y 1, 60, .inr (.inl fc))), (s1, .inr (5, [.ref c, .int hd, .int bd, .int so, .int le]))]) ?_ rfl rfl rfl rfl
          refine V_icmp_ne X ti3 rfl 57 dX8_placeOf_52 (by decide) (fun c_52 => ?_) (fun c_52 => ?_)
          · refine V_iincZ X (fun vv_ => [(2, .int vv_), (0, .ref o), (1, .ref s1), (3, .int i3)]) ti2 (by omega) (by omega) (by decide) 2 rfl (by decide) (fun _ => rfl) dX8_placeOf_57 (fun x_5 ex_5 tx_5 => ?_)
            have tx_5 : x_5.toInt = (((ln + 1) : Nat) : Int) := by omega
            refine V_goto X 2 (by decide) dX8_placeOf_60 ?_
            refine V_ls (ls' := [(0, .ref o), (1, .ref s1), (2, .int x_5)]) [1, 2, 0] rfl ?_
            refine V_ws (ws' := [(o, .inr (7, [.ref p, .ref h, .ref sa, .ref si, .int z])), (p, .inl (Y 0, 36, .inl fp)), (s1, .inr (5, [.ref c, .int hd, .int bd, .int so, .int le])), (c, .inl (Y 1, 60, .inr (.inl fc)))]) [0, 1, 3, 2] rfl rfl rfl ?_
            exact V_to (ih_2 x_5 (ln + 1) ⟨(by omega), (by omega), (lt_snoc hno (fun h => absurd c_52 (by omega)))⟩ (by omega)) rfl rfl rfl rfl
          · refine V_iload_n X 2 rfl dX8_placeOf_55 ?_
            refine V_ws (ws' := [(o, .inr (7, [.ref p, .ref h, .ref sa, .ref si, .int z])), (p, .inl (Y 0, 36, .inl fp)), (s1, .inr (5, [.ref c, .int hd, .int bd, .int so, .int le])), (c, .inl (Y 1, 60, .inr (.inl fc)))]) [0, 1, 3, 2] rfl rfl rfl ?_
            exact V_iret X hr dX8_placeOf_56 (⟨i2, rfl, rfl, (Or.inl ⟨ln, by omega, fun q hq => hma q (by omega), hno, ti2⟩)⟩)
        · refine V_aload_n X 0 rfl dX8_placeOf_25 ?_
          refine V_iload_n X 2 rfl dX8_placeOf_26 ?_
          refine V_iload_n X 3 rfl dX8_placeOf_27 ?_
          refine V_iaddZ X ti2 ti3 (by omega) (by omega) dX8_placeOf_28 (fun x_6 ex_6 tx_6 => ?_)
          have tx_6 : x_6.toInt = (((ln + j) : Nat) : Int) := by omega
          refine V_iconst (v := (0 : Int32)) X (by decide) dX8_placeOf_29 ?_
          refine V_callV (C := RX8) (wr := [(c, .inl (Y 1, 60, .inr (.inl fc))), (s1, .inr (5, [.ref c, .int hd, .int bd, .int so, .int le]))]) (st := []) X (c_X8_partT l D Y o p h sa si z x_6 (ln + j) (0 : Int32) 0 fp T tx_6 (by have h9 : (0 : Int32).toInt = 0 := (show (0 : Int32).toInt = 0 from by decide); omega) (by omega) (by omega) hT) 2 gX8_placeOf_X8_part rfl (by decide +kernel) ⟨rfl, rfl⟩ ⟨Nat.le_of_ble_eq_true rfl, Nat.le_of_ble_eq_true rfl⟩ [0, 1] [2, 3] rfl rfl rfl rfl (by decide) (ci := 7) rfl rfl 0 rfl rfl rfl (Nat.le_of_ble_eq_true rfl) ⟨Nat.le_of_ble_eq_true rfl, Nat.le_of_ble_eq_true rfl⟩ dX8_placeOf_30 (fun v_30 w_30 h_30 => ?_)
          obtain ⟨r_8, rfl, rfl, htr_9, hh8_10⟩ := h_30
          refine V_to (pc' := 33) (ls' := [(0, .ref o), (1, .ref s1), (2, .int i2), (3, .int i3)]) (st' := [.int r_8]) (ws' := [(c, .inl (Y 1, 60, .inr (.inl fc))), (s1, .inr (5, [.ref c, .int hd, .int bd, .int so, .int le])), (o, .inr (7, [.ref p, .ref h, .ref sa, .ref si, .int z])), (p, .inl (Y 0, 36, .inl fp))]) ?_ rfl rfl rfl rfl
          refine V_aload_n X 1 rfl dX8_placeOf_33 ?_
          refine V_iload_n X 3 rfl dX8_placeOf_34 ?_
          refine V_callV (C := RX6) (wr := [(o, .inr (7, [.ref p, .ref h, .ref sa, .ref si, .int z])), (p, .inl (Y 0, 36, .inl fp))]) (st := [.int r_8]) X (c_X6_small l D Y s1 c hd bd so le i3 j fc ti3 (by omega)) 1 gX8_placeOf_X6_small rfl (by decide +kernel) ⟨rfl, rfl⟩ ⟨Nat.le_of_ble_eq_true rfl, Nat.le_of_ble_eq_true rfl⟩ [1, 0] [2, 3] rfl rfl rfl rfl (by decide) (ci := 5) rfl rfl 0 rfl rfl rfl (Nat.le_of_ble_eq_true rfl) ⟨Nat.le_of_ble_eq_true rfl, Nat.le_of_ble_eq_true rfl⟩ dX8_placeOf_35 (fun v_35 w_35 h_35 => ?_)
          obtain ⟨r_12, rfl, rfl, hhr_13⟩ := h_35
          refine V_to (pc' := 38) (ls' := [(0, .ref o), (1, .ref s1), (2, .int i2), (3, .int i3)]) (st' := [.int r_12, .int r_8]) (ws' := [(o, .inr (7, [.ref p, .ref h, .ref sa, .ref si, .int z])), (p, .inl (Y 0, 36, .inl fp)), (s1, .inr (5, [.ref c, .int hd, .int bd, .int so, .int le])), (c, .inl (Y 1, 60, .inr (.inl fc)))]) ?_ rfl rfl rfl rfl
          refine V_icmp_ne X htr_9 rfl 47 dX8_placeOf_38 (by decide) (fun c_38 => ?_) (fun c_38 => ?_)
          · refine V_iload_n X 3 rfl dX8_placeOf_47 ?_
            refine V_aload_n X 1 rfl dX8_placeOf_48 ?_
            refine V_callV (C := RX6) (wr := [(o, .inr (7, [.ref p, .ref h, .ref sa, .ref si, .int z])), (p, .inl (Y 0, 36, .inl fp)), (c, .inl (Y 1, 60, .inr (.inl fc)))]) (st := [.int i3]) X (c_X6_length l D Y s1 c hd bd so le) 0 gX8_placeOf_X6_length rfl (by decide +kernel) ⟨rfl, rfl⟩ ⟨Nat.le_of_ble_eq_true rfl, Nat.le_of_ble_eq_true rfl⟩ [2] [0, 1, 3] rfl rfl rfl rfl (by decide) (ci := 5) rfl rfl 0 rfl rfl rfl (Nat.le_of_ble_eq_true rfl) ⟨Nat.le_of_ble_eq_true rfl, Nat.le_of_ble_eq_true rfl⟩ dX8_placeOf_49 (fun v_49 w_49 h_49 => ?_)
            obtain ⟨rfl, rfl⟩ := h_49
            refine V_to (pc' := 52) (ls' := [(0, .ref o), (1, .ref s1), (2, .int i2), (3, .int i3)]) (st' := [.int le, .int i3]) (ws' := [(o, .inr (7, [.ref p, .ref h, .ref sa, .ref si, .int z])), (p, .inl (Y 0, 36, .inl fp)), (c, .inl (Y 1, 60, .inr (.inl fc))), (s1, .inr (5, [.ref c, .int hd, .int bd, .int so, .int le]))]) ?_ rfl rfl rfl rfl
            refine V_icmp_ne X ti3 rfl 57 dX8_placeOf_52 (by decide) (fun c_52 => ?_) (fun c_52 => ?_)
            · refine V_iincZ X (fun vv_ => [(2, .int vv_), (0, .ref o), (1, .ref s1), (3, .int i3)]) ti2 (by omega) (by omega) (by decide) 2 rfl (by decide) (fun _ => rfl) dX8_placeOf_57 (fun x_15 ex_15 tx_15 => ?_)
              have tx_15 : x_15.toInt = (((ln + 1) : Nat) : Int) := by omega
              refine V_goto X 2 (by decide) dX8_placeOf_60 ?_
              refine V_ls (ls' := [(0, .ref o), (1, .ref s1), (2, .int x_15)]) [1, 2, 0] rfl ?_
              refine V_ws (ws' := [(o, .inr (7, [.ref p, .ref h, .ref sa, .ref si, .int z])), (p, .inl (Y 0, 36, .inl fp)), (s1, .inr (5, [.ref c, .int hd, .int bd, .int so, .int le])), (c, .inl (Y 1, 60, .inr (.inl fc)))]) [0, 1, 3, 2] rfl rfl rfl ?_
              exact V_to (ih_2 x_15 (ln + 1) ⟨(by omega), (by omega), (lt_snoc hno (fun h => c_38 (by have h9 := h j (by omega); rw [hhr_13]; exact h9)))⟩ (by omega)) rfl rfl rfl rfl
            · refine V_iload_n X 2 rfl dX8_placeOf_55 ?_
              refine V_ws (ws' := [(o, .inr (7, [.ref p, .ref h, .ref sa, .ref si, .int z])), (p, .inl (Y 0, 36, .inl fp)), (s1, .inr (5, [.ref c, .int hd, .int bd, .int so, .int le])), (c, .inl (Y 1, 60, .inr (.inl fc)))]) [0, 1, 3, 2] rfl rfl rfl ?_
              exact V_iret X hr dX8_placeOf_56 (⟨i2, rfl, rfl, (Or.inl ⟨ln, by omega, fun q hq => hma q (by omega), hno, ti2⟩)⟩)
          · refine V_iincZ X (fun vv_ => [(3, .int vv_), (0, .ref o), (1, .ref s1), (2, .int i2)]) ti3 (by omega) (by omega) (by decide) 3 rfl (by decide) (fun _ => rfl) dX8_placeOf_41 (fun x_16 ex_16 tx_16 => ?_)
            have tx_16 : x_16.toInt = (((j + 1) : Nat) : Int) := by omega
            refine V_goto X 17 (by decide) dX8_placeOf_44 ?_
            refine V_ls (ls' := [(0, .ref o), (1, .ref s1), (2, .int i2), (3, .int x_16)]) [1, 2, 3, 0] rfl ?_
            exact V_to (ih_17 x_16 (j + 1) ⟨(by omega), (by omega), (lt_snoc hma (by show _ = ((fc j).toInt32).toInt; rw [← hhr_13]; exact c_38))⟩ (by omega)) rfl rfl rfl rfl
      · exact ⟨(by have h9 : (0 : Int32).toInt = 0 := (show (0 : Int32).toInt = 0 from by decide); omega), (by omega), (fun q hq => absurd hq (Nat.not_lt_zero q))⟩
  · exact ⟨(by have h9 : (0 : Int32).toInt = 0 := (show (0 : Int32).toInt = 0 from by decide); omega), (by omega), (fun q hq => absurd hq (Nat.not_lt_zero q))⟩

set_option maxHeartbeats 4000000 in
set_option maxRecDepth 100000 in
theorem c_X8_alikeFrom (l : Launch) (D : va_G) (Y : Nat → ClassId) (o : Nat) (p : Nat) (h : Nat) (sa : Nat) (si : Nat) (z : Int32) (n : Nat) (o2 : Nat) (p2 : Nat) (h2 : Nat) (sa2 : Nat) (si2 : Nat) (z2 : Int32) (n2 : Nat) (x : Int32) (i : Nat) (y : Int32) (k : Nat) (fp : Nat → Int32) (T : Nat → Nat) (fp2 : Nat → Int32) (T2 : Nat → Nat) (tz : z.toInt = ((n : Nat) : Int)) (hn12 : n ≤ 12) (hT : PT fp T) (tz2 : z2.toInt = ((n2 : Nat) : Int)) (hn122 : n2 ≤ 12) (hT2 : PT fp2 T2) (tx : x.toInt = ((i : Nat) : Int)) (ty : y.toInt = ((k : Nat) : Int)) (hi : i < n) (hk : k < n2) : Mg l yX8_alikeFrom wsX8_alikeFrom ({ frames := 2, cells := 0, slots := 0, locals := 43 }) D Y [(o, .inr (7, [.ref p, .ref h, .ref sa, .ref si, .int z])), (p, .inl (Y 0, 36, .inl fp)), (o2, .inr (7, [.ref p2, .ref h2, .ref sa2, .ref si2, .int z2])), (p2, .inl (Y 0, 36, .inl fp2))] [.ref o, .int x, .ref o2, .int y] 0 0 (fun vv__ ww__ => (∃ (r : Int32), ∃ (rn : Nat), vv__ = some (.int r) ∧ ww__ = [(o, .inr (7, [.ref p, .ref h, .ref sa, .ref si, .int z])), (p, .inl (Y 0, 36, .inl fp)), (o2, .inr (7, [.ref p2, .ref h2, .ref sa2, .ref si2, .int z2])), (p2, .inl (Y 0, 36, .inl fp2))] ∧ (r.toInt = ((rn : Nat) : Int)) ∧ (rn ≤ 12) ∧ (ALc T T2 n n2 i k rn))) := by
  refine Mg_of (cc := cX8_alikeFrom) (maxL := 5) (ret := (some .int)) (ls0 := [(0, .ref o), (1, .int x), (2, .ref o2), (3, .int y)]) RX8 (by decide) rfl rfl rfl (Nat.le_of_ble_eq_true rfl) (fun p__ e__ s__ m__ b__ t__ c__ X hr hn => ?_)
  refine V_iconst (v := (0 : Int32)) X (by decide) dX8_alikeFrom_0 ?_
  refine V_istore (ls' := [(4, .int (0 : Int32)), (0, .ref o), (1, .int x), (2, .ref o2), (3, .int y)]) X (by decide) rfl dX8_alikeFrom_1 ?_
  refine V_ls (ls' := [(0, .ref o), (1, .int x), (2, .ref o2), (3, .int y), (4, .int (0 : Int32))]) [1, 2, 3, 4, 0] rfl ?_
  refine V_to (V_ind2 (fun (i4 : Int32) (j : Nat) => (i4.toInt = ((j : Nat) : Int)) ∧ (j ≤ 12) ∧ (∀ q, q < j → ALp T T2 n n2 i k q)) (fun (i4 : Int32) (j : Nat) => 12 - j) (fun (i4 : Int32) (j : Nat) => [(0, .ref o), (1, .int x), (2, .ref o2), (3, .int y), (4, .int i4)]) (fun (i4 : Int32) (j : Nat) => [(o, .inr (7, [.ref p, .ref h, .ref sa, .ref si, .int z])), (p, .inl (Y 0, 36, .inl fp)), (o2, .inr (7, [.ref p2, .ref h2, .ref sa2, .ref si2, .int z2])), (p2, .inl (Y 0, 36, .inl fp2))]) (fun i4 j hI_3 ih_3 => ?_) (0 : Int32) 0 ?_) rfl rfl rfl rfl
  · obtain ⟨ti4, hj, hal⟩ := hI_3
    refine V_to (ls' := [(0, .ref o), (1, .int x), (2, .ref o2), (3, .int y), (4, .int i4)]) (ws' := [(o, .inr (7, [.ref p, .ref h, .ref sa, .ref si, .int z])), (p, .inl (Y 0, 36, .inl fp)), (o2, .inr (7, [.ref p2, .ref h2, .ref sa2, .ref si2, .int z2])), (p2, .inl (Y 0, 36, .inl fp2))]) ?_ rfl rfl rfl rfl
    refine V_iload X 4 rfl dX8_alikeFrom_3 ?_
    refine V_bipush (v := (12 : Int32)) X (by decide) dX8_alikeFrom_5 ?_
    refine V_icmp_ge X ti4 (show (12 : Int32).toInt = 12 from by decide) 59 dX8_alikeFrom_7 (by decide) (fun c_7 => ?_) (fun c_7 => ?_)
    · refine V_iload X 4 rfl dX8_alikeFrom_59 ?_
      exact V_iret X hr dX8_alikeFrom_61 (⟨i4, j, rfl, rfl, ti4, hj, ⟨hal, fun h => by have h1 := h.1; have h2 := h.2.1; have h3 := h.2.2; omega⟩⟩)
    · refine V_aload_n X 0 rfl dX8_alikeFrom_10 ?_
      refine V_iload_n X 1 rfl dX8_alikeFrom_11 ?_
      refine V_iload X 4 rfl dX8_alikeFrom_12 ?_
      refine V_iaddZ X tx ti4 (by omega) (by omega) dX8_alikeFrom_14 (fun x_1 ex_1 tx_1 => ?_)
      have tx_1 : x_1.toInt = (((i + j) : Nat) : Int) := by omega
      refine V_callV (C := RX8) (wr := [(p, .inl (Y 0, 36, .inl fp)), (o2, .inr (7, [.ref p2, .ref h2, .ref sa2, .ref si2, .int z2])), (p2, .inl (Y 0, 36, .inl fp2))]) (st := []) X (c_X8_isLine l D Y o x_1 p h sa si z) 1 gX8_alikeFrom_X8_isLine rfl (by decide +kernel) ⟨rfl, rfl⟩ ⟨Nat.le_of_ble_eq_true rfl, Nat.le_of_ble_eq_true rfl⟩ [0] [1, 2, 3] rfl rfl rfl rfl (by decide) (ci := 7) rfl rfl 0 rfl rfl rfl (Nat.le_of_ble_eq_true rfl) ⟨Nat.le_of_ble_eq_true rfl, Nat.le_of_ble_eq_true rfl⟩ dX8_alikeFrom_15 (fun v_15 w_15 h_15 => ?_)
      rcases h_15 with ⟨rfl, rfl, hhy_3⟩ | ⟨rfl, rfl, hhn_4⟩
      · refine V_to (pc' := 18) (ls' := [(0, .ref o), (1, .int x), (2, .ref o2), (3, .int y), (4, .int i4)]) (st' := [.int (1 : Int32)]) (ws' := [(p, .inl (Y 0, 36, .inl fp)), (o2, .inr (7, [.ref p2, .ref h2, .ref sa2, .ref si2, .int z2])), (p2, .inl (Y 0, 36, .inl fp2)), (o, .inr (7, [.ref p, .ref h, .ref sa, .ref si, .int z]))]) ?_ rfl rfl rfl rfl
        refine V_if_eq X (show (1 : Int32).toInt = 1 from by decide) 59 dX8_alikeFrom_18 (by decide) (fun c_18 => absurd c_18 (by decide)) (fun _ => ?_)
        refine V_aload_n X 2 rfl dX8_alikeFrom_21 ?_
        refine V_iload_n X 3 rfl dX8_alikeFrom_22 ?_
        refine V_iload X 4 rfl dX8_alikeFrom_23 ?_
        refine V_iaddZ X ty ti4 (by omega) (by omega) dX8_alikeFrom_25 (fun x_5 ex_5 tx_5 => ?_)
        have tx_5 : x_5.toInt = (((k + j) : Nat) : Int) := by omega
        refine V_callV (C := RX8) (wr := [(p, .inl (Y 0, 36, .inl fp)), (p2, .inl (Y 0, 36, .inl fp2)), (o, .inr (7, [.ref p, .ref h, .ref sa, .ref si, .int z]))]) (st := []) X (c_X8_isLine l D Y o2 x_5 p2 h2 sa2 si2 z2) 1 gX8_alikeFrom_X8_isLine rfl (by decide +kernel) ⟨rfl, rfl⟩ ⟨Nat.le_of_ble_eq_true rfl, Nat.le_of_ble_eq_true rfl⟩ [1] [0, 2, 3] rfl rfl rfl rfl (by decide) (ci := 7) rfl rfl 0 rfl rfl rfl (Nat.le_of_ble_eq_true rfl) ⟨Nat.le_of_ble_eq_true rfl, Nat.le_of_ble_eq_true rfl⟩ dX8_alikeFrom_26 (fun v_26 w_26 h_26 => ?_)
        rcases h_26 with ⟨rfl, rfl, hhy_7⟩ | ⟨rfl, rfl, hhn_8⟩
        · refine V_to (pc' := 29) (ls' := [(0, .ref o), (1, .int x), (2, .ref o2), (3, .int y), (4, .int i4)]) (st' := [.int (1 : Int32)]) (ws' := [(p, .inl (Y 0, 36, .inl fp)), (p2, .inl (Y 0, 36, .inl fp2)), (o, .inr (7, [.ref p, .ref h, .ref sa, .ref si, .int z])), (o2, .inr (7, [.ref p2, .ref h2, .ref sa2, .ref si2, .int z2]))]) ?_ rfl rfl rfl rfl
          refine V_if_eq X (show (1 : Int32).toInt = 1 from by decide) 59 dX8_alikeFrom_29 (by decide) (fun c_29 => absurd c_29 (by decide)) (fun _ => ?_)
          refine V_aload_n X 0 rfl dX8_alikeFrom_32 ?_
          refine V_iload_n X 1 rfl dX8_alikeFrom_33 ?_
          refine V_iload X 4 rfl dX8_alikeFrom_34 ?_
          refine V_iaddZ X tx ti4 (by omega) (by omega) dX8_alikeFrom_36 (fun x_9 ex_9 tx_9 => ?_)
          have tx_9 : x_9.toInt = (((i + j) : Nat) : Int) := by omega
          refine V_iconst (v := (0 : Int32)) X (by decide) dX8_alikeFrom_37 ?_
          refine V_callV (C := RX8) (wr := [(p2, .inl (Y 0, 36, .inl fp2)), (o2, .inr (7, [.ref p2, .ref h2, .ref sa2, .ref si2, .int z2]))]) (st := []) X (c_X8_partT l D Y o p h sa si z x_9 (i + j) (0 : Int32) 0 fp T tx_9 (by have h9 : (0 : Int32).toInt = 0 := (show (0 : Int32).toInt = 0 from by decide); omega) (by omega) (by omega) hT) 2 gX8_alikeFrom_X8_part rfl (by decide +kernel) ⟨rfl, rfl⟩ ⟨Nat.le_of_ble_eq_true rfl, Nat.le_of_ble_eq_true rfl⟩ [2, 0] [1, 3] rfl rfl rfl rfl (by decide) (ci := 7) rfl rfl 0 rfl rfl rfl (Nat.le_of_ble_eq_true rfl) ⟨Nat.le_of_ble_eq_true rfl, Nat.le_of_ble_eq_true rfl⟩ dX8_alikeFrom_38 (fun v_38 w_38 h_38 => ?_)
          obtain ⟨r_11, rfl, rfl, htr_12, hh8_13⟩ := h_38
          refine V_to (pc' := 41) (ls' := [(0, .ref o), (1, .int x), (2, .ref o2), (3, .int y), (4, .int i4)]) (st' := [.int r_11]) (ws' := [(p2, .inl (Y 0, 36, .inl fp2)), (o2, .inr (7, [.ref p2, .ref h2, .ref sa2, .ref si2, .int z2])), (o, .inr (7, [.ref p, .ref h, .ref sa, .ref si, .int z])), (p, .inl (Y 0, 36, .inl fp))]) ?_ rfl rfl rfl rfl
          refine V_aload_n X 2 rfl dX8_alikeFrom_41 ?_
          refine V_iload_n X 3 rfl dX8_alikeFrom_42 ?_
          refine V_iload X 4 rfl dX8_alikeFrom_43 ?_
          refine V_iaddZ X ty ti4 (by omega) (by omega) dX8_alikeFrom_45 (fun x_14 ex_14 tx_14 => ?_)
          have tx_14 : x_14.toInt = (((k + j) : Nat) : Int) := by omega
          refine V_iconst (v := (0 : Int32)) X (by decide) dX8_alikeFrom_46 ?_
          refine V_callV (C := RX8) (wr := [(o, .inr (7, [.ref p, .ref h, .ref sa, .ref si, .int z])), (p, .inl (Y 0, 36, .inl fp))]) (st := [.int r_11]) X (c_X8_partT l D Y o2 p2 h2 sa2 si2 z2 x_14 (k + j) (0 : Int32) 0 fp2 T2 tx_14 (by have h9 : (0 : Int32).toInt = 0 := (show (0 : Int32).toInt = 0 from by decide); omega) (by omega) (by omega) hT2) 2 gX8_alikeFrom_X8_part rfl (by decide +kernel) ⟨rfl, rfl⟩ ⟨Nat.le_of_ble_eq_true rfl, Nat.le_of_ble_eq_true rfl⟩ [1, 0] [2, 3] rfl rfl rfl rfl (by decide) (ci := 7) rfl rfl 0 rfl rfl rfl (Nat.le_of_ble_eq_true rfl) ⟨Nat.le_of_ble_eq_true rfl, Nat.le_of_ble_eq_true rfl⟩ dX8_alikeFrom_47 (fun v_47 w_47 h_47 => ?_)
          obtain ⟨r_16, rfl, rfl, htr_17, hh8_18⟩ := h_47
          refine V_to (pc' := 50) (ls' := [(0, .ref o), (1, .int x), (2, .ref o2), (3, .int y), (4, .int i4)]) (st' := [.int r_16, .int r_11]) (ws' := [(o, .inr (7, [.ref p, .ref h, .ref sa, .ref si, .int z])), (p, .inl (Y 0, 36, .inl fp)), (o2, .inr (7, [.ref p2, .ref h2, .ref sa2, .ref si2, .int z2])), (p2, .inl (Y 0, 36, .inl fp2))]) ?_ rfl rfl rfl rfl
          refine V_icmp_ne X htr_12 htr_17 59 dX8_alikeFrom_50 (by decide) (fun c_50 => ?_) (fun c_50 => ?_)
          · refine V_iload X 4 rfl dX8_alikeFrom_59 ?_
            exact V_iret X hr dX8_alikeFrom_61 (⟨i4, j, rfl, rfl, ti4, hj, ⟨hal, fun h => by have h1 := h.1; have h2 := h.2.1; have h3 := h.2.2; omega⟩⟩)
          · refine V_iincZ X (fun vv_ => [(4, .int vv_), (0, .ref o), (1, .int x), (2, .ref o2), (3, .int y)]) ti4 (by omega) (by omega) (by decide) 4 rfl (by decide) (fun _ => rfl) dX8_alikeFrom_53 (fun x_19 ex_19 tx_19 => ?_)
            have tx_19 : x_19.toInt = (((j + 1) : Nat) : Int) := by omega
            refine V_goto X 3 (by decide) dX8_alikeFrom_56 ?_
            refine V_ls (ls' := [(0, .ref o), (1, .int x), (2, .ref o2), (3, .int y), (4, .int x_19)]) [1, 2, 3, 4, 0] rfl ?_
            exact V_to (ih_3 x_19 (j + 1) ⟨(by omega), (by omega), (lt_snoc hal ⟨by omega, by omega, by omega⟩)⟩ (by omega)) rfl rfl rfl rfl
        · refine V_to (pc' := 29) (ls' := [(0, .ref o), (1, .int x), (2, .ref o2), (3, .int y), (4, .int i4)]) (st' := [.int (0 : Int32)]) (ws' := [(p, .inl (Y 0, 36, .inl fp)), (p2, .inl (Y 0, 36, .inl fp2)), (o, .inr (7, [.ref p, .ref h, .ref sa, .ref si, .int z])), (o2, .inr (7, [.ref p2, .ref h2, .ref sa2, .ref si2, .int z2]))]) ?_ rfl rfl rfl rfl
          refine V_if_eq X (show (0 : Int32).toInt = 0 from by decide) 59 dX8_alikeFrom_29 (by decide) (fun _ => ?_) (fun c_29 => absurd c_29 (by decide))
          refine V_iload X 4 rfl dX8_alikeFrom_59 ?_
          refine V_ws (ws' := [(o, .inr (7, [.ref p, .ref h, .ref sa, .ref si, .int z])), (p, .inl (Y 0, 36, .inl fp)), (o2, .inr (7, [.ref p2, .ref h2, .ref sa2, .ref si2, .int z2])), (p2, .inl (Y 0, 36, .inl fp2))]) [2, 0, 3, 1] rfl rfl rfl ?_
          exact V_iret X hr dX8_alikeFrom_61 (⟨i4, j, rfl, rfl, ti4, hj, ⟨hal, fun h => by have h1 := h.1; have h2 := h.2.1; have h3 := h.2.2; omega⟩⟩)
      · refine V_to (pc' := 18) (ls' := [(0, .ref o), (1, .int x), (2, .ref o2), (3, .int y), (4, .int i4)]) (st' := [.int (0 : Int32)]) (ws' := [(p, .inl (Y 0, 36, .inl fp)), (o2, .inr (7, [.ref p2, .ref h2, .ref sa2, .ref si2, .int z2])), (p2, .inl (Y 0, 36, .inl fp2)), (o, .inr (7, [.ref p, .ref h, .ref sa, .ref si, .int z]))]) ?_ rfl rfl rfl rfl
        refine V_if_eq X (show (0 : Int32).toInt = 0 from by decide) 59 dX8_alikeFrom_18 (by decide) (fun _ => ?_) (fun c_18 => absurd c_18 (by decide))
        refine V_iload X 4 rfl dX8_alikeFrom_59 ?_
        refine V_ws (ws' := [(o, .inr (7, [.ref p, .ref h, .ref sa, .ref si, .int z])), (p, .inl (Y 0, 36, .inl fp)), (o2, .inr (7, [.ref p2, .ref h2, .ref sa2, .ref si2, .int z2])), (p2, .inl (Y 0, 36, .inl fp2))]) [3, 0, 1, 2] rfl rfl rfl ?_
        exact V_iret X hr dX8_alikeFrom_61 (⟨i4, j, rfl, rfl, ti4, hj, ⟨hal, fun h => by have h1 := h.1; have h2 := h.2.1; have h3 := h.2.2; omega⟩⟩)
  · exact ⟨(by have h9 : (0 : Int32).toInt = 0 := (show (0 : Int32).toInt = 0 from by decide); omega), (by omega), (fun q hq => absurd hq (Nat.not_lt_zero q))⟩

theorem in_X7_copyFrom_X7 : ∀ w ∈ wsX70, w ∈ wsX7_copyFrom := fun w h => List.mem_cons_of_mem _ (List.mem_append_right _ h)
set_option maxHeartbeats 4000000 in
set_option maxRecDepth 100000 in
theorem c_X7_copyFrom (l : Launch) (D : va_G) (Y : Nat → ClassId) (g : Nat) (gl : Nat) (gb : Nat) (gt : Nat) (so : Nat) (s_ : Int32) (r_ : Int32) (oc : Int32) (wh : Int32) (g2 : Nat) (gl2 : Nat) (gb2 : Nat) (gt2 : Nat) (so2 : Nat) (s2 : Int32) (r2 : Int32) (oc2 : Int32) (wh2 : Int32) (fl : Nat → Int32) (fb : Nat → Int32) (ft : Nat → Int32) (el : Nat → Int32) (eb : Nat → Int32) (et : Nat → Int32) : Mg l yX7_copyFrom wsX7_copyFrom ({ frames := 2, cells := 0, slots := 0, locals := 85 }) D Y [(g, .inr (6, [.ref gl, .ref gb, .ref gt, .ref so, .int s_, .int r_, .int oc, .int wh])), (gl, .inl (Y 0, 60, .inl fl)), (gb, .inl (Y 0, 60, .inl fb)), (gt, .inl (Y 0, 12, .inl ft)), (g2, .inr (6, [.ref gl2, .ref gb2, .ref gt2, .ref so2, .int s2, .int r2, .int oc2, .int wh2])), (gl2, .inl (Y 0, 60, .inl el)), (gb2, .inl (Y 0, 60, .inl eb)), (gt2, .inl (Y 0, 12, .inl et))] [.ref g, .ref g2] 0 0 (fun vv__ ww__ => (∃ (kl : Nat → Int32), ∃ (kb : Nat → Int32), ∃ (kt : Nat → Int32), vv__ = none ∧ ww__ = [(g, .inr (6, [.ref gl, .ref gb, .ref gt, .ref so2, .int s2, .int r2, .int oc2, .int wh2])), (gl, .inl (Y 0, 60, .inl kl)), (gb, .inl (Y 0, 60, .inl kb)), (gt, .inl (Y 0, 12, .inl kt)), (g2, .inr (6, [.ref gl2, .ref gb2, .ref gt2, .ref so2, .int s2, .int r2, .int oc2, .int wh2])), (gl2, .inl (Y 0, 60, .inl el)), (gb2, .inl (Y 0, 60, .inl eb)), (gt2, .inl (Y 0, 12, .inl et))] ∧ (∀ j, j < 60 → kl j = el j) ∧ (∀ j, j < 60 → kb j = eb j) ∧ (∀ j, j < 12 → kt j = et j))) := by
  refine Mg_of (cc := cX7_copyFrom) (maxL := 2) (ret := none) (ls0 := [(0, .ref g), (1, .ref g2)]) RX7 (by decide) rfl rfl rfl (Nat.le_of_ble_eq_true rfl) (fun p__ e__ s__ m__ b__ t__ c__ X hr hn => ?_)
  refine V_aload_n X 1 rfl dX7_copyFrom_0 ?_
  refine V_get (C := RX7) (T := TX7) (N := 8) (ci := 6) (v := .ref gl2) X in_X7_copyFrom_X7 4 rfl rfl 0 (by decide) (List.mem_of_getElem? (i := 1) rfl) rfl rfl dX7_copyFrom_1 ?_
  refine V_aload_n X 0 rfl dX7_copyFrom_4 ?_
  refine V_get (C := RX7) (T := TX7) (N := 8) (ci := 6) (v := .ref gl) X in_X7_copyFrom_X7 0 rfl rfl 0 (by decide) (List.mem_of_getElem? (i := 1) rfl) rfl rfl dX7_copyFrom_5 ?_
  refine V_callS (wr := [(g, .inr (6, [.ref gl, .ref gb, .ref gt, .ref so, .int s_, .int r_, .int oc, .int wh])), (gb, .inl (Y 0, 60, .inl fb)), (gt, .inl (Y 0, 12, .inl ft)), (g2, .inr (6, [.ref gl2, .ref gb2, .ref gt2, .ref so2, .int s2, .int r2, .int oc2, .int wh2])), (gb2, .inl (Y 0, 60, .inl eb)), (gt2, .inl (Y 0, 12, .inl et))]) (st := []) X (c_X1_copy l D Y gl2 gl 60 el fl (by omega)) 2 gX7_copyFrom_X1_copy rfl (by decide +kernel) ⟨rfl, rfl⟩ ⟨Nat.le_of_ble_eq_true rfl, Nat.le_of_ble_eq_true rfl⟩ [5, 1] [0, 2, 3, 4, 6, 7] rfl rfl rfl rfl (by decide) rfl rfl (Nat.le_of_ble_eq_true rfl) ⟨Nat.le_of_ble_eq_true rfl, Nat.le_of_ble_eq_true rfl⟩ dX7_copyFrom_8 (fun v_8 w_8 h_8 => ?_)
  obtain ⟨f2_2, rfl, rfl, hf_a⟩ := h_8
  refine V_to (pc' := 11) (ls' := [(0, .ref g), (1, .ref g2)]) (st' := []) (ws' := [(g, .inr (6, [.ref gl, .ref gb, .ref gt, .ref so, .int s_, .int r_, .int oc, .int wh])), (gb, .inl (Y 0, 60, .inl fb)), (gt, .inl (Y 0, 12, .inl ft)), (g2, .inr (6, [.ref gl2, .ref gb2, .ref gt2, .ref so2, .int s2, .int r2, .int oc2, .int wh2])), (gb2, .inl (Y 0, 60, .inl eb)), (gt2, .inl (Y 0, 12, .inl et)), (gl2, .inl (Y 0, 60, .inl el)), (gl, .inl (Y 0, 60, .inl f2_2))]) ?_ rfl rfl rfl rfl
  refine V_aload_n X 1 rfl dX7_copyFrom_11 ?_
  refine V_get (C := RX7) (T := TX7) (N := 8) (ci := 6) (v := .ref gb2) X in_X7_copyFrom_X7 3 rfl rfl 1 (by decide) (List.mem_of_getElem? (i := 2) rfl) rfl rfl dX7_copyFrom_12 ?_
  refine V_aload_n X 0 rfl dX7_copyFrom_15 ?_
  refine V_get (C := RX7) (T := TX7) (N := 8) (ci := 6) (v := .ref gb) X in_X7_copyFrom_X7 0 rfl rfl 1 (by decide) (List.mem_of_getElem? (i := 2) rfl) rfl rfl dX7_copyFrom_16 ?_
  refine V_callS (wr := [(g, .inr (6, [.ref gl, .ref gb, .ref gt, .ref so, .int s_, .int r_, .int oc, .int wh])), (gt, .inl (Y 0, 12, .inl ft)), (g2, .inr (6, [.ref gl2, .ref gb2, .ref gt2, .ref so2, .int s2, .int r2, .int oc2, .int wh2])), (gt2, .inl (Y 0, 12, .inl et)), (gl2, .inl (Y 0, 60, .inl el)), (gl, .inl (Y 0, 60, .inl f2_2))]) (st := []) X (c_X1_copy l D Y gb2 gb 60 eb fb (by omega)) 2 gX7_copyFrom_X1_copy rfl (by decide +kernel) ⟨rfl, rfl⟩ ⟨Nat.le_of_ble_eq_true rfl, Nat.le_of_ble_eq_true rfl⟩ [4, 1] [0, 2, 3, 5, 6, 7] rfl rfl rfl rfl (by decide) rfl rfl (Nat.le_of_ble_eq_true rfl) ⟨Nat.le_of_ble_eq_true rfl, Nat.le_of_ble_eq_true rfl⟩ dX7_copyFrom_19 (fun v_19 w_19 h_19 => ?_)
  obtain ⟨f2_5, rfl, rfl, hf_b⟩ := h_19
  refine V_to (pc' := 22) (ls' := [(0, .ref g), (1, .ref g2)]) (st' := []) (ws' := [(g, .inr (6, [.ref gl, .ref gb, .ref gt, .ref so, .int s_, .int r_, .int oc, .int wh])), (gt, .inl (Y 0, 12, .inl ft)), (g2, .inr (6, [.ref gl2, .ref gb2, .ref gt2, .ref so2, .int s2, .int r2, .int oc2, .int wh2])), (gt2, .inl (Y 0, 12, .inl et)), (gl2, .inl (Y 0, 60, .inl el)), (gl, .inl (Y 0, 60, .inl f2_2)), (gb2, .inl (Y 0, 60, .inl eb)), (gb, .inl (Y 0, 60, .inl f2_5))]) ?_ rfl rfl rfl rfl
  refine V_aload_n X 1 rfl dX7_copyFrom_22 ?_
  refine V_get (C := RX7) (T := TX7) (N := 8) (ci := 6) (v := .ref gt2) X in_X7_copyFrom_X7 2 rfl rfl 2 (by decide) (List.mem_of_getElem? (i := 3) rfl) rfl rfl dX7_copyFrom_23 ?_
  refine V_aload_n X 0 rfl dX7_copyFrom_26 ?_
  refine V_get (C := RX7) (T := TX7) (N := 8) (ci := 6) (v := .ref gt) X in_X7_copyFrom_X7 0 rfl rfl 2 (by decide) (List.mem_of_getElem? (i := 3) rfl) rfl rfl dX7_copyFrom_27 ?_
  refine V_callS (wr := [(g, .inr (6, [.ref gl, .ref gb, .ref gt, .ref so, .int s_, .int r_, .int oc, .int wh])), (g2, .inr (6, [.ref gl2, .ref gb2, .ref gt2, .ref so2, .int s2, .int r2, .int oc2, .int wh2])), (gl2, .inl (Y 0, 60, .inl el)), (gl, .inl (Y 0, 60, .inl f2_2)), (gb2, .inl (Y 0, 60, .inl eb)), (gb, .inl (Y 0, 60, .inl f2_5))]) (st := []) X (c_X1_copy l D Y gt2 gt 12 et ft (by omega)) 2 gX7_copyFrom_X1_copy rfl (by decide +kernel) ⟨rfl, rfl⟩ ⟨Nat.le_of_ble_eq_true rfl, Nat.le_of_ble_eq_true rfl⟩ [3, 1] [0, 2, 4, 5, 6, 7] rfl rfl rfl rfl (by decide) rfl rfl (Nat.le_of_ble_eq_true rfl) ⟨Nat.le_of_ble_eq_true rfl, Nat.le_of_ble_eq_true rfl⟩ dX7_copyFrom_30 (fun v_30 w_30 h_30 => ?_)
  obtain ⟨f2_8, rfl, rfl, hf_c⟩ := h_30
  refine V_to (pc' := 33) (ls' := [(0, .ref g), (1, .ref g2)]) (st' := []) (ws' := [(g, .inr (6, [.ref gl, .ref gb, .ref gt, .ref so, .int s_, .int r_, .int oc, .int wh])), (g2, .inr (6, [.ref gl2, .ref gb2, .ref gt2, .ref so2, .int s2, .int r2, .int oc2, .int wh2])), (gl2, .inl (Y 0, 60, .inl el)), (gl, .inl (Y 0, 60, .inl f2_2)), (gb2, .inl (Y 0, 60, .inl eb)), (gb, .inl (Y 0, 60, .inl f2_5)), (gt2, .inl (Y 0, 12, .inl et)), (gt, .inl (Y 0, 12, .inl f2_8))]) ?_ rfl rfl rfl rfl
  refine V_aload_n X 0 rfl dX7_copyFrom_33 ?_
  refine V_aload_n X 1 rfl dX7_copyFrom_34 ?_
  refine V_get (C := RX7) (T := TX7) (N := 8) (ci := 6) (v := .ref so2) X in_X7_copyFrom_X7 1 rfl rfl 3 (by decide) (List.mem_of_getElem? (i := 4) rfl) rfl rfl dX7_copyFrom_35 ?_
  refine V_put (C := RX7) (T := TX7) (N := 8) (ci := 6) (v := .ref so2) (ty := tyX7 3) (ws' := [(g, .inr (6, [.ref gl, .ref gb, .ref gt, .ref so2, .int s_, .int r_, .int oc, .int wh])), (g2, .inr (6, [.ref gl2, .ref gb2, .ref gt2, .ref so2, .int s2, .int r2, .int oc2, .int wh2])), (gl2, .inl (Y 0, 60, .inl el)), (gl, .inl (Y 0, 60, .inl f2_2)), (gb2, .inl (Y 0, 60, .inl eb)), (gb, .inl (Y 0, 60, .inl f2_5)), (gt2, .inl (Y 0, 12, .inl et)), (gt, .inl (Y 0, 12, .inl f2_8))]) X in_X7_copyFrom_X7 0 rfl rfl 3 (by decide) (List.mem_of_getElem? (i := 4) rfl) rfl tyX7 tyX7_ok nmX7 rfl (tyX7_ok 3 (by decide)) rfl rfl (Nat.le_of_ble_eq_true rfl) rfl dX7_copyFrom_38 ?_
  refine V_aload_n X 0 rfl dX7_copyFrom_41 ?_
  refine V_aload_n X 1 rfl dX7_copyFrom_42 ?_
  refine V_get (C := RX7) (T := TX7) (N := 8) (ci := 6) (v := .int s2) X in_X7_copyFrom_X7 1 rfl rfl 4 (by decide) (List.mem_of_getElem? (i := 5) rfl) rfl rfl dX7_copyFrom_43 ?_
  refine V_put (C := RX7) (T := TX7) (N := 8) (ci := 6) (v := .int s2) (ty := tyX7 4) (ws' := [(g, .inr (6, [.ref gl, .ref gb, .ref gt, .ref so2, .int s2, .int r_, .int oc, .int wh])), (g2, .inr (6, [.ref gl2, .ref gb2, .ref gt2, .ref so2, .int s2, .int r2, .int oc2, .int wh2])), (gl2, .inl (Y 0, 60, .inl el)), (gl, .inl (Y 0, 60, .inl f2_2)), (gb2, .inl (Y 0, 60, .inl eb)), (gb, .inl (Y 0, 60, .inl f2_5)), (gt2, .inl (Y 0, 12, .inl et)), (gt, .inl (Y 0, 12, .inl f2_8))]) X in_X7_copyFrom_X7 0 rfl rfl 4 (by decide) (List.mem_of_getElem? (i := 5) rfl) rfl tyX7 tyX7_ok nmX7 rfl (tyX7_ok 4 (by decide)) rfl rfl (Nat.le_of_ble_eq_true rfl) rfl dX7_copyFrom_46 ?_
  refine V_aload_n X 0 rfl dX7_copyFrom_49 ?_
  refine V_aload_n X 1 rfl dX7_copyFrom_50 ?_
  refine V_get (C := RX7) (T := TX7) (N := 8) (ci := 6) (v := .int r2) X in_X7_copyFrom_X7 1 rfl rfl 5 (by decide) (List.mem_of_getElem? (i := 6) rfl) rfl rfl dX7_copyFrom_51 ?_
  refine V_put (C := RX7) (T := TX7) (N := 8) (ci := 6) (v := .int r2) (ty := tyX7 5) (ws' := [(g, .inr (6, [.ref gl, .ref gb, .ref gt, .ref so2, .int s2, .int r2, .int oc, .int wh])), (g2, .inr (6, [.ref gl2, .ref gb2, .ref gt2, .ref so2, .int s2, .int r2, .int oc2, .int wh2])), (gl2, .inl (Y 0, 60, .inl el)), (gl, .inl (Y 0, 60, .inl f2_2)), (gb2, .inl (Y 0, 60, .inl eb)), (gb, .inl (Y 0, 60, .inl f2_5)), (gt2, .inl (Y 0, 12, .inl et)), (gt, .inl (Y 0, 12, .inl f2_8))]) X in_X7_copyFrom_X7 0 rfl rfl 5 (by decide) (List.mem_of_getElem? (i := 6) rfl) rfl tyX7 tyX7_ok nmX7 rfl (tyX7_ok 5 (by decide)) rfl rfl (Nat.le_of_ble_eq_true rfl) rfl dX7_copyFrom_54 ?_
  refine V_aload_n X 0 rfl dX7_copyFrom_57 ?_
  refine V_aload_n X 1 rfl dX7_copyFrom_58 ?_
  refine V_get (C := RX7) (T := TX7) (N := 8) (ci := 6) (v := .int oc2) X in_X7_copyFrom_X7 1 rfl rfl 6 (by decide) (List.mem_of_getElem? (i := 7) rfl) rfl rfl dX7_copyFrom_59 ?_
  refine V_put (C := RX7) (T := TX7) (N := 8) (ci := 6) (v := .int oc2) (ty := tyX7 6) (ws' := [(g, .inr (6, [.ref gl, .ref gb, .ref gt, .ref so2, .int s2, .int r2, .int oc2, .int wh])), (g2, .inr (6, [.ref gl2, .ref gb2, .ref gt2, .ref so2, .int s2, .int r2, .int oc2, .int wh2])), (gl2, .inl (Y 0, 60, .inl el)), (gl, .inl (Y 0, 60, .inl f2_2)), (gb2, .inl (Y 0, 60, .inl eb)), (gb, .inl (Y 0, 60, .inl f2_5)), (gt2, .inl (Y 0, 12, .inl et)), (gt, .inl (Y 0, 12, .inl f2_8))]) X in_X7_copyFrom_X7 0 rfl rfl 6 (by decide) (List.mem_of_getElem? (i := 7) rfl) rfl tyX7 tyX7_ok nmX7 rfl (tyX7_ok 6 (by decide)) rfl rfl (Nat.le_of_ble_eq_true rfl) rfl dX7_copyFrom_62 ?_
  refine V_aload_n X 0 rfl dX7_copyFrom_65 ?_
  refine V_aload_n X 1 rfl dX7_copyFrom_66 ?_
  refine V_get (C := RX7) (T := TX7) (N := 8) (ci := 6) (v := .int wh2) X in_X7_copyFrom_X7 1 rfl rfl 7 (by decide) (List.mem_of_getElem? (i := 8) rfl) rfl rfl dX7_copyFrom_67 ?_
  refine V_put (C := RX7) (T := TX7) (N := 8) (ci := 6) (v := .int wh2) (ty := tyX7 7) (ws' := [(g, .inr (6, [.ref gl, .ref gb, .ref gt, .ref so2, .int s2, .int r2, .int oc2, .int wh2])), (g2, .inr (6, [.ref gl2, .ref gb2, .ref gt2, .ref so2, .int s2, .int r2, .int oc2, .int wh2])), (gl2, .inl (Y 0, 60, .inl el)), (gl, .inl (Y 0, 60, .inl f2_2)), (gb2, .inl (Y 0, 60, .inl eb)), (gb, .inl (Y 0, 60, .inl f2_5)), (gt2, .inl (Y 0, 12, .inl et)), (gt, .inl (Y 0, 12, .inl f2_8))]) X in_X7_copyFrom_X7 0 rfl rfl 7 (by decide) (List.mem_of_getElem? (i := 8) rfl) rfl tyX7 tyX7_ok nmX7 rfl (tyX7_ok 7 (by decide)) rfl rfl (Nat.le_of_ble_eq_true rfl) rfl dX7_copyFrom_70 ?_
  refine V_ws (ws' := [(g, .inr (6, [.ref gl, .ref gb, .ref gt, .ref so2, .int s2, .int r2, .int oc2, .int wh2])), (gl, .inl (Y 0, 60, .inl f2_2)), (gb, .inl (Y 0, 60, .inl f2_5)), (gt, .inl (Y 0, 12, .inl f2_8)), (g2, .inr (6, [.ref gl2, .ref gb2, .ref gt2, .ref so2, .int s2, .int r2, .int oc2, .int wh2])), (gl2, .inl (Y 0, 60, .inl el)), (gb2, .inl (Y 0, 60, .inl eb)), (gt2, .inl (Y 0, 12, .inl et))]) [0, 3, 5, 7, 1, 2, 4, 6] rfl rfl rfl ?_
  exact V_vret X hr dX7_copyFrom_73 (⟨f2_2, f2_5, f2_8, rfl, rfl, hf_a, hf_b, hf_c⟩)

theorem in_X4_copyFrom_X4 : ∀ w ∈ wsX40, w ∈ wsX4_copyFrom := fun w h => List.mem_cons_of_mem _ (List.mem_append_left _ (List.mem_append_right _ h))
set_option maxHeartbeats 4000000 in
set_option maxRecDepth 100000 in
theorem c_X4_copyFrom (l : Launch) (D : va_G) (Y : Nat → ClassId) (d : Nat) (dS : Int32) (dL : Int32) (dK : Int32) (dM : Int32) (g : Nat) (gl : Nat) (gb : Nat) (gt : Nat) (so : Nat) (s_ : Int32) (r_ : Int32) (oc : Int32) (wh : Int32) (d2 : Nat) (dS2 : Int32) (dL2 : Int32) (dK2 : Int32) (dM2 : Int32) (g2 : Nat) (gl2 : Nat) (gb2 : Nat) (gt2 : Nat) (so2 : Nat) (s2 : Int32) (r2 : Int32) (oc2 : Int32) (wh2 : Int32) (fl : Nat → Int32) (fb : Nat → Int32) (ft : Nat → Int32) (el : Nat → Int32) (eb : Nat → Int32) (et : Nat → Int32) : Mg l yX4_copyFrom wsX4_copyFrom ({ frames := 3, cells := 0, slots := 0, locals := 106 }) D Y [(d, .inr (3, [.ref g, .int dS, .int dL, .int dK, .int dM])), (g, .inr (6, [.ref gl, .ref gb, .ref gt, .ref so, .int s_, .int r_, .int oc, .int wh])), (gl, .inl (Y 0, 60, .inl fl)), (gb, .inl (Y 0, 60, .inl fb)), (gt, .inl (Y 0, 12, .inl ft)), (d2, .inr (3, [.ref g2, .int dS2, .int dL2, .int dK2, .int dM2])), (g2, .inr (6, [.ref gl2, .ref gb2, .ref gt2, .ref so2, .int s2, .int r2, .int oc2, .int wh2])), (gl2, .inl (Y 0, 60, .inl el)), (gb2, .inl (Y 0, 60, .inl eb)), (gt2, .inl (Y 0, 12, .inl et))] [.ref d, .ref d2] 0 0 (fun vv__ ww__ => (∃ (kl : Nat → Int32), ∃ (kb : Nat → Int32), ∃ (kt : Nat → Int32), vv__ = none ∧ ww__ = [(d, .inr (3, [.ref g, .int dS2, .int dL2, .int dK2, .int dM2])), (g, .inr (6, [.ref gl, .ref gb, .ref gt, .ref so2, .int s2, .int r2, .int oc2, .int wh2])), (gl, .inl (Y 0, 60, .inl kl)), (gb, .inl (Y 0, 60, .inl kb)), (gt, .inl (Y 0, 12, .inl kt)), (d2, .inr (3, [.ref g2, .int dS2, .int dL2, .int dK2, .int dM2])), (g2, .inr (6, [.ref gl2, .ref gb2, .ref gt2, .ref so2, .int s2, .int r2, .int oc2, .int wh2])), (gl2, .inl (Y 0, 60, .inl el)), (gb2, .inl (Y 0, 60, .inl eb)), (gt2, .inl (Y 0, 12, .inl et))] ∧ (∀ j, j < 60 → kl j = el j) ∧ (∀ j, j < 60 → kb j = eb j) ∧ (∀ j, j < 12 → kt j = et j))) := by
  refine Mg_of (cc := cX4_copyFrom) (maxL := 2) (ret := none) (ls0 := [(0, .ref d), (1, .ref d2)]) RX4 (by decide) rfl rfl rfl (Nat.le_of_ble_eq_true rfl) (fun p__ e__ s__ m__ b__ t__ c__ X hr hn => ?_)
  refine V_aload_n X 0 rfl dX4_copyFrom_0 ?_
  refine V_get (C := RX4) (T := TX4) (N := 5) (ci := 3) (v := .ref g) X in_X4_copyFrom_X4 0 rfl rfl 0 (by decide) (List.mem_of_getElem? (i := 1) rfl) rfl rfl dX4_copyFrom_1 ?_
  refine V_aload_n X 1 rfl dX4_copyFrom_4 ?_
  refine V_get (C := RX4) (T := TX4) (N := 5) (ci := 3) (v := .ref g2) X in_X4_copyFrom_X4 5 rfl rfl 0 (by decide) (List.mem_of_getElem? (i := 1) rfl) rfl rfl dX4_copyFrom_5 ?_
  refine V_callV (C := RX7) (wr := [(d, .inr (3, [.ref g, .int dS, .int dL, .int dK, .int dM])), (d2, .inr (3, [.ref g2, .int dS2, .int dL2, .int dK2, .int dM2]))]) (st := []) X (c_X7_copyFrom l D Y g gl gb gt so s_ r_ oc wh g2 gl2 gb2 gt2 so2 s2 r2 oc2 wh2 fl fb ft el eb et) 1 gX4_copyFrom_X7_copyFrom rfl (by decide +kernel) ⟨rfl, rfl⟩ ⟨Nat.le_of_ble_eq_true rfl, Nat.le_of_ble_eq_true rfl⟩ [1, 2, 3, 4, 6, 7, 8, 9] [0, 5] rfl rfl rfl rfl (by decide) (ci := 6) rfl rfl 0 rfl rfl rfl (Nat.le_of_ble_eq_true rfl) ⟨Nat.le_of_ble_eq_true rfl, Nat.le_of_ble_eq_true rfl⟩ dX4_copyFrom_8 (fun v_8 w_8 h_8 => ?_)
  obtain ⟨kl_2, kb_3, kt_4, rfl, rfl, hhkl_5, hhkb_6, hhkt_7⟩ := h_8
  refine V_to (pc' := 11) (ls' := [(0, .ref d), (1, .ref d2)]) (st' := []) (ws' := [(d, .inr (3, [.ref g, .int dS, .int dL, .int dK, .int dM])), (d2, .inr (3, [.ref g2, .int dS2, .int dL2, .int dK2, .int dM2])), (g, .inr (6, [.ref gl, .ref gb, .ref gt, .ref so2, .int s2, .int r2, .int oc2, .int wh2])), (gl, .inl (Y 0, 60, .inl kl_2)), (gb, .inl (Y 0, 60, .inl kb_3)), (gt, .inl (Y 0, 12, .inl kt_4)), (g2, .inr (6, [.ref gl2, .ref gb2, .ref gt2, .ref so2, .int s2, .int r2, .int oc2, .int wh2])), (gl2, .inl (Y 0, 60, .inl el)), (gb2, .inl (Y 0, 60, .inl eb)), (gt2, .inl (Y 0, 12, .inl et))]) ?_ rfl rfl rfl rfl
  refine V_aload_n X 0 rfl dX4_copyFrom_11 ?_
  refine V_aload_n X 1 rfl dX4_copyFrom_12 ?_
  refine V_get (C := RX4) (T := TX4) (N := 5) (ci := 3) (v := .int dS2) X in_X4_copyFrom_X4 1 rfl rfl 1 (by decide) (List.mem_of_getElem? (i := 2) rfl) rfl rfl dX4_copyFrom_13 ?_
  refine V_put (C := RX4) (T := TX4) (N := 5) (ci := 3) (v := .int dS2) (ty := tyX4 1) (ws' := [(d, .inr (3, [.ref g, .int dS2, .int dL, .int dK, .int dM])), (d2, .inr (3, [.ref g2, .int dS2, .int dL2, .int dK2, .int dM2])), (g, .inr (6, [.ref gl, .ref gb, .ref gt, .ref so2, .int s2, .int r2, .int oc2, .int wh2])), (gl, .inl (Y 0, 60, .inl kl_2)), (gb, .inl (Y 0, 60, .inl kb_3)), (gt, .inl (Y 0, 12, .inl kt_4)), (g2, .inr (6, [.ref gl2, .ref gb2, .ref gt2, .ref so2, .int s2, .int r2, .int oc2, .int wh2])), (gl2, .inl (Y 0, 60, .inl el)), (gb2, .inl (Y 0, 60, .inl eb)), (gt2, .inl (Y 0, 12, .inl et))]) X in_X4_copyFrom_X4 0 rfl rfl 1 (by decide) (List.mem_of_getElem? (i := 2) rfl) rfl tyX4 tyX4_ok nmX4 rfl (tyX4_ok 1 (by decide)) rfl rfl (Nat.le_of_ble_eq_true rfl) rfl dX4_copyFrom_16 ?_
  refine V_aload_n X 0 rfl dX4_copyFrom_19 ?_
  refine V_aload_n X 1 rfl dX4_copyFrom_20 ?_
  refine V_get (C := RX4) (T := TX4) (N := 5) (ci := 3) (v := .int dL2) X in_X4_copyFrom_X4 1 rfl rfl 2 (by decide) (List.mem_of_getElem? (i := 3) rfl) rfl rfl dX4_copyFrom_21 ?_
  refine V_put (C := RX4) (T := TX4) (N := 5) (ci := 3) (v := .int dL2) (ty := tyX4 2) (ws' := [(d, .inr (3, [.ref g, .int dS2, .int dL2, .int dK, .int dM])), (d2, .inr (3, [.ref g2, .int dS2, .int dL2, .int dK2, .int dM2])), (g, .inr (6, [.ref gl, .ref gb, .ref gt, .ref so2, .int s2, .int r2, .int oc2, .int wh2])), (gl, .inl (Y 0, 60, .inl kl_2)), (gb, .inl (Y 0, 60, .inl kb_3)), (gt, .inl (Y 0, 12, .inl kt_4)), (g2, .inr (6, [.ref gl2, .ref gb2, .ref gt2, .ref so2, .int s2, .int r2, .int oc2, .int wh2])), (gl2, .inl (Y 0, 60, .inl el)), (gb2, .inl (Y 0, 60, .inl eb)), (gt2, .inl (Y 0, 12, .inl et))]) X in_X4_copyFrom_X4 0 rfl rfl 2 (by decide) (List.mem_of_getElem? (i := 3) rfl) rfl tyX4 tyX4_ok nmX4 rfl (tyX4_ok 2 (by decide)) rfl rfl (Nat.le_of_ble_eq_true rfl) rfl dX4_copyFrom_24 ?_
  refine V_aload_n X 0 rfl dX4_copyFrom_27 ?_
  refine V_aload_n X 1 rfl dX4_copyFrom_28 ?_
  refine V_get (C := RX4) (T := TX4) (N := 5) (ci := 3) (v := .int dK2) X in_X4_copyFrom_X4 1 rfl rfl 3 (by decide) (List.mem_of_getElem? (i := 4) rfl) rfl rfl dX4_copyFrom_29 ?_
  refine V_put (C := RX4) (T := TX4) (N := 5) (ci := 3) (v := .int dK2) (ty := tyX4 3) (ws' := [(d, .inr (3, [.ref g, .int dS2, .int dL2, .int dK2, .int dM])), (d2, .inr (3, [.ref g2, .int dS2, .int dL2, .int dK2, .int dM2])), (g, .inr (6, [.ref gl, .ref gb, .ref gt, .ref so2, .int s2, .int r2, .int oc2, .int wh2])), (gl, .inl (Y 0, 60, .inl kl_2)), (gb, .inl (Y 0, 60, .inl kb_3)), (gt, .inl (Y 0, 12, .inl kt_4)), (g2, .inr (6, [.ref gl2, .ref gb2, .ref gt2, .ref so2, .int s2, .int r2, .int oc2, .int wh2])), (gl2, .inl (Y 0, 60, .inl el)), (gb2, .inl (Y 0, 60, .inl eb)), (gt2, .inl (Y 0, 12, .inl et))]) X in_X4_copyFrom_X4 0 rfl rfl 3 (by decide) (List.mem_of_getElem? (i := 4) rfl) rfl tyX4 tyX4_ok nmX4 rfl (tyX4_ok 3 (by decide)) rfl rfl (Nat.le_of_ble_eq_true rfl) rfl dX4_copyFrom_32 ?_
  refine V_aload_n X 0 rfl dX4_copyFrom_35 ?_
  refine V_aload_n X 1 rfl dX4_copyFrom_36 ?_
  refine V_get (C := RX4) (T := TX4) (N := 5) (ci := 3) (v := .int dM2) X in_X4_copyFrom_X4 1 rfl rfl 4 (by decide) (List.mem_of_getElem? (i := 5) rfl) rfl rfl dX4_copyFrom_37 ?_
  refine V_put (C := RX4) (T := TX4) (N := 5) (ci := 3) (v := .int dM2) (ty := tyX4 4) (ws' := [(d, .inr (3, [.ref g, .int dS2, .int dL2, .int dK2, .int dM2])), (d2, .inr (3, [.ref g2, .int dS2, .int dL2, .int dK2, .int dM2])), (g, .inr (6, [.ref gl, .ref gb, .ref gt, .ref so2, .int s2, .int r2, .int oc2, .int wh2])), (gl, .inl (Y 0, 60, .inl kl_2)), (gb, .inl (Y 0, 60, .inl kb_3)), (gt, .inl (Y 0, 12, .inl kt_4)), (g2, .inr (6, [.ref gl2, .ref gb2, .ref gt2, .ref so2, .int s2, .int r2, .int oc2, .int wh2])), (gl2, .inl (Y 0, 60, .inl el)), (gb2, .inl (Y 0, 60, .inl eb)), (gt2, .inl (Y 0, 12, .inl et))]) X in_X4_copyFrom_X4 0 rfl rfl 4 (by decide) (List.mem_of_getElem? (i := 5) rfl) rfl tyX4 tyX4_ok nmX4 rfl (tyX4_ok 4 (by decide)) rfl rfl (Nat.le_of_ble_eq_true rfl) rfl dX4_copyFrom_40 ?_
  refine V_ws (ws' := [(d, .inr (3, [.ref g, .int dS2, .int dL2, .int dK2, .int dM2])), (g, .inr (6, [.ref gl, .ref gb, .ref gt, .ref so2, .int s2, .int r2, .int oc2, .int wh2])), (gl, .inl (Y 0, 60, .inl kl_2)), (gb, .inl (Y 0, 60, .inl kb_3)), (gt, .inl (Y 0, 12, .inl kt_4)), (d2, .inr (3, [.ref g2, .int dS2, .int dL2, .int dK2, .int dM2])), (g2, .inr (6, [.ref gl2, .ref gb2, .ref gt2, .ref so2, .int s2, .int r2, .int oc2, .int wh2])), (gl2, .inl (Y 0, 60, .inl el)), (gb2, .inl (Y 0, 60, .inl eb)), (gt2, .inl (Y 0, 12, .inl et))]) [0, 2, 3, 4, 5, 1, 6, 7, 8, 9] rfl rfl rfl ?_
  exact V_vret X hr dX4_copyFrom_43 (⟨kl_2, kb_3, kt_4, rfl, rfl, hhkl_5, hhkb_6, hhkt_7⟩)

theorem in_X5_size_X5 : ∀ w ∈ wsX50, w ∈ wsX5_size := fun w h => List.mem_cons_of_mem _ (List.mem_append_right _ h)
set_option maxHeartbeats 4000000 in
set_option maxRecDepth 100000 in
theorem c_X5_size (l : Launch) (D : va_G) (Y : Nat → ClassId) (lw : Nat) (ws_ : Nat) (ww : Nat) (wt : Nat) (wn : Nat) (wg : Nat) (wi : Nat) (lz : Int32) : Mg l yX5_size wsX5_size ({ frames := 0, cells := 0, slots := 0, locals := 0 }) D Y [(lw, .inr (4, [.ref ws_, .ref ww, .ref wt, .ref wn, .ref wg, .ref wi, .int lz]))] [.ref lw] 0 0 (fun vv__ ww__ => (vv__ = some (.int lz) ∧ ww__ = [(lw, .inr (4, [.ref ws_, .ref ww, .ref wt, .ref wn, .ref wg, .ref wi, .int lz]))])) := by
  refine Mg_of (cc := cX5_size) (maxL := 1) (ret := (some .int)) (ls0 := [(0, .ref lw)]) RX5 (by decide) rfl rfl rfl (Nat.le_of_ble_eq_true rfl) (fun p__ e__ s__ m__ b__ t__ c__ X hr hn => ?_)
  refine V_aload_n X 0 rfl dX5_size_0 ?_
  refine V_get (C := RX5) (T := TX5) (N := 7) (ci := 4) (v := .int lz) X in_X5_size_X5 0 rfl rfl 6 (by decide) (List.mem_of_getElem? (i := 1) rfl) rfl rfl dX5_size_1 ?_
  exact V_iret X hr dX5_size_4 (⟨rfl, rfl⟩)

theorem in_X5_clear_X5 : ∀ w ∈ wsX50, w ∈ wsX5_clear := fun w h => List.mem_cons_of_mem _ (List.mem_append_right _ h)
set_option maxHeartbeats 4000000 in
set_option maxRecDepth 100000 in
theorem c_X5_clear (l : Launch) (D : va_G) (Y : Nat → ClassId) (lw : Nat) (ws_ : Nat) (ww : Nat) (wt : Nat) (wn : Nat) (wg : Nat) (wi : Nat) (lz : Int32) (fi : Nat → Int32) : Mg l yX5_clear wsX5_clear ({ frames := 1, cells := 0, slots := 0, locals := 23 }) D Y [(lw, .inr (4, [.ref ws_, .ref ww, .ref wt, .ref wn, .ref wg, .ref wi, .int lz])), (wi, .inl (Y 0, 640, .inl fi))] [.ref lw] 0 0 (fun vv__ ww__ => (∃ (fi2 : Nat → Int32), vv__ = none ∧ ww__ = [(lw, .inr (4, [.ref ws_, .ref ww, .ref wt, .ref wn, .ref wg, .ref wi, .int (0 : Int32)])), (wi, .inl (Y 0, 640, .inl fi2))] ∧ (∀ j, j < 640 → fi2 j = 0))) := by
  refine Mg_of (cc := cX5_clear) (maxL := 1) (ret := none) (ls0 := [(0, .ref lw)]) RX5 (by decide) rfl rfl rfl (Nat.le_of_ble_eq_true rfl) (fun p__ e__ s__ m__ b__ t__ c__ X hr hn => ?_)
  refine V_aload_n X 0 rfl dX5_clear_0 ?_
  refine V_iconst (v := (0 : Int32)) X (by decide) dX5_clear_1 ?_
  refine V_put (C := RX5) (T := TX5) (N := 7) (ci := 4) (v := .int (0 : Int32)) (ty := tyX5 6) (ws' := [(lw, .inr (4, [.ref ws_, .ref ww, .ref wt, .ref wn, .ref wg, .ref wi, .int (0 : Int32)])), (wi, .inl (Y 0, 640, .inl fi))]) X in_X5_clear_X5 0 rfl rfl 6 (by decide) (List.mem_of_getElem? (i := 1) rfl) rfl tyX5 tyX5_ok nmX5 rfl (tyX5_ok 6 (by decide)) rfl rfl (Nat.le_of_ble_eq_true rfl) rfl dX5_clear_2 ?_
  refine V_aload_n X 0 rfl dX5_clear_5 ?_
  refine V_get (C := RX5) (T := TX5) (N := 7) (ci := 4) (v := .ref wi) X in_X5_clear_X5 0 rfl rfl 5 (by decide) (List.mem_of_getElem? (i := 2) rfl) rfl rfl dX5_clear_6 ?_
  refine V_iconst (v := (0 : Int32)) X (by decide) dX5_clear_9 ?_
  refine V_callS (wr := [(lw, .inr (4, [.ref ws_, .ref ww, .ref wt, .ref wn, .ref wg, .ref wi, .int (0 : Int32)]))]) (st := []) X (c_J7_fill_53178 l D Y wi (0 : Int32) 640 fi (by omega)) 2 gX5_clear_J7_fill_53178 rfl (by decide +kernel) ⟨rfl, rfl⟩ ⟨Nat.le_of_ble_eq_true rfl, Nat.le_of_ble_eq_true rfl⟩ [1] [0] rfl rfl rfl rfl (by decide) rfl rfl (Nat.le_of_ble_eq_true rfl) ⟨Nat.le_of_ble_eq_true rfl, Nat.le_of_ble_eq_true rfl⟩ dX5_clear_10 (fun v_10 w_10 h_10 => ?_)
  obtain ⟨f2_2, rfl, rfl, hhf_3⟩ := h_10
  refine V_to (pc' := 13) (ls' := [(0, .ref lw)]) (st' := []) (ws' := [(lw, .inr (4, [.ref ws_, .ref ww, .ref wt, .ref wn, .ref wg, .ref wi, .int (0 : Int32)])), (wi, .inl (Y 0, 640, .inl f2_2))]) ?_ rfl rfl rfl rfl
  exact V_vret X hr dX5_clear_13 (⟨f2_2, rfl, rfl, hhf_3⟩)

theorem in_X5_add_X5 : ∀ w ∈ wsX50, w ∈ wsX5_add := fun w h => List.mem_cons_of_mem _ (List.mem_append_right _ h)
set_option maxHeartbeats 4000000 in
set_option maxRecDepth 100000 in
theorem c_X5_add (l : Launch) (D : va_G) (Y : Nat → ClassId) (lw : Nat) (ws_ : Nat) (ww : Nat) (wt : Nat) (wn : Nat) (wg : Nat) (wi : Nat) (lz : Int32) (sz : Nat) (x : Int32) (y : Int32) (fs : Nat → Int32) (fw : Nat → Int32) (tsz : lz.toInt = ((sz : Nat) : Int)) (hsz : sz ≤ 128) : Mg l yX5_add wsX5_add ({ frames := 0, cells := 0, slots := 0, locals := 0 }) D Y [(lw, .inr (4, [.ref ws_, .ref ww, .ref wt, .ref wn, .ref wg, .ref wi, .int lz])), (ws_, .inl (Y 0, 128, .inl fs)), (ww, .inl (Y 0, 128, .inl fw))] [.ref lw, .int x, .int y] 0 0 (fun vv__ ww__ => (∃ (lz2 : Int32), vv__ = none ∧ ww__ = [(lw, .inr (4, [.ref ws_, .ref ww, .ref wt, .ref wn, .ref wg, .ref wi, .int lz2])), (ws_, .inl (Y 0, 128, .inl (upd fs sz x))), (ww, .inl (Y 0, 128, .inl (upd fw sz y)))] ∧ (sz < 128) ∧ (lz2.toInt = ((sz + 1 : Nat) : Int))) ∨ (vv__ = none ∧ ww__ = [(lw, .inr (4, [.ref ws_, .ref ww, .ref wt, .ref wn, .ref wg, .ref wi, .int lz])), (ws_, .inl (Y 0, 128, .inl fs)), (ww, .inl (Y 0, 128, .inl fw))] ∧ (sz = 128))) := by
  refine Mg_of (cc := cX5_add) (maxL := 3) (ret := none) (ls0 := [(0, .ref lw), (1, .int x), (2, .int y)]) RX5 (by decide) rfl rfl rfl (Nat.le_of_ble_eq_true rfl) (fun p__ e__ s__ m__ b__ t__ c__ X hr hn => ?_)
  refine V_aload_n X 0 rfl dX5_add_0 ?_
  refine V_get (C := RX5) (T := TX5) (N := 7) (ci := 4) (v := .int lz) X in_X5_add_X5 0 rfl rfl 6 (by decide) (List.mem_of_getElem? (i := 1) rfl) rfl rfl dX5_add_1 ?_
  refine V_aload_n X 0 rfl dX5_add_4 ?_
  refine V_get (C := RX5) (T := TX5) (N := 7) (ci := 4) (v := .ref ws_) X in_X5_add_X5 0 rfl rfl 0 (by decide) (List.mem_of_getElem? (i := 2) rfl) rfl rfl dX5_add_5 ?_
  refine V_alen (v := (128 : Int32)) X 1 0 rfl rfl rfl dX5_add_8 ?_
  refine V_icmp_ge X tsz (show (128 : Int32).toInt = 128 from by decide) 24 dX5_add_9 (by decide) (fun c_9 => ?_) (fun c_9 => ?_)
  · exact V_vret X hr dX5_add_24 (Or.inr (⟨rfl, rfl, (by omega)⟩))
  · refine V_aload_n X 0 rfl dX5_add_12 ?_
    refine V_get (C := RX5) (T := TX5) (N := 7) (ci := 4) (v := .int lz) X in_X5_add_X5 0 rfl rfl 6 (by decide) (List.mem_of_getElem? (i := 1) rfl) rfl rfl dX5_add_13 ?_
    refine V_aload_n X 0 rfl dX5_add_16 ?_
    refine V_get (C := RX5) (T := TX5) (N := 7) (ci := 4) (v := .ref ww) X in_X5_add_X5 0 rfl rfl 1 (by decide) (List.mem_of_getElem? (i := 3) rfl) rfl rfl dX5_add_17 ?_
    refine V_alen (v := (128 : Int32)) X 2 0 rfl rfl rfl dX5_add_20 ?_
    refine V_icmp_lt X tsz (show (128 : Int32).toInt = 128 from by decide) 25 dX5_add_21 (by decide) (fun c_21 => ?_) (fun c_21 => ?_)
    · refine V_aload_n X 0 rfl dX5_add_25 ?_
      refine V_get (C := RX5) (T := TX5) (N := 7) (ci := 4) (v := .ref ws_) X in_X5_add_X5 0 rfl rfl 0 (by decide) (List.mem_of_getElem? (i := 2) rfl) rfl rfl dX5_add_26 ?_
      refine V_aload_n X 0 rfl dX5_add_29 ?_
      refine V_get (C := RX5) (T := TX5) (N := 7) (ci := 4) (v := .int lz) X in_X5_add_X5 0 rfl rfl 6 (by decide) (List.mem_of_getElem? (i := 1) rfl) rfl rfl dX5_add_30 ?_
      refine V_iload_n X 1 rfl dX5_add_33 ?_
      refine V_iast (ws' := [(lw, .inr (4, [.ref ws_, .ref ww, .ref wt, .ref wn, .ref wg, .ref wi, .int lz])), (ws_, .inl (Y 0, 128, .inl (upd fs sz x))), (ww, .inl (Y 0, 128, .inl fw))]) X 1 sz rfl tsz (by omega) rfl dX5_add_34 ?_
      refine V_aload_n X 0 rfl dX5_add_35 ?_
      refine V_get (C := RX5) (T := TX5) (N := 7) (ci := 4) (v := .ref ww) X in_X5_add_X5 0 rfl rfl 1 (by decide) (List.mem_of_getElem? (i := 3) rfl) rfl rfl dX5_add_36 ?_
      refine V_aload_n X 0 rfl dX5_add_39 ?_
      refine V_get (C := RX5) (T := TX5) (N := 7) (ci := 4) (v := .int lz) X in_X5_add_X5 0 rfl rfl 6 (by decide) (List.mem_of_getElem? (i := 1) rfl) rfl rfl dX5_add_40 ?_
      refine V_iload_n X 2 rfl dX5_add_43 ?_
      refine V_iast (ws' := [(lw, .inr (4, [.ref ws_, .ref ww, .ref wt, .ref wn, .ref wg, .ref wi, .int lz])), (ws_, .inl (Y 0, 128, .inl (upd fs sz x))), (ww, .inl (Y 0, 128, .inl (upd fw sz y)))]) X 2 sz rfl tsz (by omega) rfl dX5_add_44 ?_
      refine V_aload_n X 0 rfl dX5_add_45 ?_
      refine V_dup X rfl dX5_add_46 ?_
      refine V_get (C := RX5) (T := TX5) (N := 7) (ci := 4) (v := .int lz) X in_X5_add_X5 0 rfl rfl 6 (by decide) (List.mem_of_getElem? (i := 1) rfl) rfl rfl dX5_add_47 ?_
      refine V_iconst (v := (1 : Int32)) X (by decide) dX5_add_50 ?_
      refine V_iaddZ X tsz (show (1 : Int32).toInt = 1 from by decide) (by omega) (by omega) dX5_add_51 (fun x_1 ex_1 tx_1 => ?_)
      have tx_1 : x_1.toInt = (((sz + 1) : Nat) : Int) := by omega
      refine V_put (C := RX5) (T := TX5) (N := 7) (ci := 4) (v := .int x_1) (ty := tyX5 6) (ws' := [(lw, .inr (4, [.ref ws_, .ref ww, .ref wt, .ref wn, .ref wg, .ref wi, .int x_1])), (ws_, .inl (Y 0, 128, .inl (upd fs sz x))), (ww, .inl (Y 0, 128, .inl (upd fw sz y)))]) X in_X5_add_X5 0 rfl rfl 6 (by decide) (List.mem_of_getElem? (i := 1) rfl) rfl tyX5 tyX5_ok nmX5 rfl (tyX5_ok 6 (by decide)) rfl rfl (Nat.le_of_ble_eq_true rfl) rfl dX5_add_52 ?_
      exact V_vret X hr dX5_add_55 (Or.inl ⟨x_1, rfl, rfl, (by omega), (by omega)⟩)
    · exact V_vret X hr dX5_add_24 (Or.inr (⟨rfl, rfl, (by omega)⟩))

theorem in_X5_leadOn_X5 : ∀ w ∈ wsX50, w ∈ wsX5_leadOn := fun w h => List.mem_cons_of_mem _ (List.mem_append_right _ h)
set_option maxHeartbeats 4000000 in
set_option maxRecDepth 100000 in
theorem c_X5_leadOn (l : Launch) (D : va_G) (Y : Nat → ClassId) (lw : Nat) (ws_ : Nat) (ww : Nat) (wt : Nat) (wn : Nat) (wg : Nat) (wi : Nat) (lz : Int32) (x : Int32) (k : Nat) (fw : Nat → Int32) (tx : x.toInt = ((k : Nat) : Int)) (hk : k < 128) : Mg l yX5_leadOn wsX5_leadOn ({ frames := 1, cells := 0, slots := 0, locals := 22 }) D Y [(lw, .inr (4, [.ref ws_, .ref ww, .ref wt, .ref wn, .ref wg, .ref wi, .int lz])), (ww, .inl (Y 0, 128, .inl fw))] [.ref lw, .int x] 0 0 (fun vv__ ww__ => (vv__ = none ∧ ww__ = [(lw, .inr (4, [.ref ws_, .ref ww, .ref wt, .ref wn, .ref wg, .ref wi, .int lz])), (ww, .inl (Y 0, 128, .inl (upd fw k lz)))])) := by
  refine Mg_of (cc := cX5_leadOn) (maxL := 2) (ret := none) (ls0 := [(0, .ref lw), (1, .int x)]) RX5 (by decide) rfl rfl rfl (Nat.le_of_ble_eq_true rfl) (fun p__ e__ s__ m__ b__ t__ c__ X hr hn => ?_)
  refine V_aload_n X 0 rfl dX5_leadOn_0 ?_
  refine V_get (C := RX5) (T := TX5) (N := 7) (ci := 4) (v := .ref ww) X in_X5_leadOn_X5 0 rfl rfl 1 (by decide) (List.mem_of_getElem? (i := 1) rfl) rfl rfl dX5_leadOn_1 ?_
  refine V_iload_n X 1 rfl dX5_leadOn_4 ?_
  refine V_aload_n X 0 rfl dX5_leadOn_5 ?_
  refine V_get (C := RX5) (T := TX5) (N := 7) (ci := 4) (v := .int lz) X in_X5_leadOn_X5 0 rfl rfl 6 (by decide) (List.mem_of_getElem? (i := 2) rfl) rfl rfl dX5_leadOn_6 ?_
  refine V_callS (wr := [(lw, .inr (4, [.ref ws_, .ref ww, .ref wt, .ref wn, .ref wg, .ref wi, .int lz]))]) (st := []) X (c_X1_set l D Y ww x k lz 128 fw tx hk (by omega)) 3 gX5_leadOn_X1_set rfl (by decide +kernel) ⟨rfl, rfl⟩ ⟨Nat.le_of_ble_eq_true rfl, Nat.le_of_ble_eq_true rfl⟩ [1] [0] rfl rfl rfl rfl (by decide) rfl rfl (Nat.le_of_ble_eq_true rfl) ⟨Nat.le_of_ble_eq_true rfl, Nat.le_of_ble_eq_true rfl⟩ dX5_leadOn_9 (fun v_9 w_9 h_9 => ?_)
  obtain ⟨rfl, rfl⟩ := h_9
  refine V_to (pc' := 12) (ls' := [(0, .ref lw), (1, .int x)]) (st' := []) (ws' := [(lw, .inr (4, [.ref ws_, .ref ww, .ref wt, .ref wn, .ref wg, .ref wi, .int lz])), (ww, .inl (Y 0, 128, .inl (upd fw k lz)))]) ?_ rfl rfl rfl rfl
  exact V_vret X hr dX5_leadOn_12 (⟨rfl, rfl⟩)
