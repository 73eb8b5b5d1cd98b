
/-! ===== LINES and TEXTS, by contract ===== -/
theorem PK_ne {x : Int32} {e v : Int} (h : PK x e) (hx : x.toInt ≠ v) (hv : 0 ≤ v) : e ≠ v := by unfold PK at h; omega
theorem PK_eq {x : Int32} {e v : Int} (h : PK x e) (hx : x.toInt = v) (h1 : v < 128) (h0 : v ≠ -1) : e = v := by unfold PK at h; omega
theorem PK_m1 {c : Nat → Int} {fa x : Int32} {q : Nat} (h : PK x (eff c fa q)) (hd : fa.toInt ≠ 0 ∨ (48 ≤ c q ∧ c q ≤ 57)) : x.toInt ≠ 63 ∧ x.toInt ≠ 59 ∧ x.toInt ≠ 41 := by
  have := PK_dead h hd; omega
theorem in_X9_readLine_X9 : ∀ w ∈ wsX90, w ∈ wsX9_readLine := fun w h => List.mem_cons_of_mem _ (List.mem_append_left _ (List.mem_append_right _ h))
set_option maxHeartbeats 4000000 in
set_option maxRecDepth 100000 in
theorem c_X9_readLine (l : Launch) (D : va_G) (Y : Nat → ClassId) (tp : Nat) (tb : Nat) (lw : Nat) (tl : Int32) (pl : Int32) (fa : Int32) (pos : Nat) (L : Nat) (c : Nat → Int) (ws_ : Nat) (ww : Nat) (wt : Nat) (wn : Nat) (wg : Nat) (wi : Nat) (lz : Int32) (fs : Nat → Int32) (fw : Nat → Int32) (t0 : List Tok) (fb : Nat → Int32) (ttl : tl.toInt = ((L : Nat) : Int)) (hL : L ≤ 120) (tpl : pl.toInt = ((pos : Nat) : Int)) (hpL : pos ≤ L) (hCH : CHR fb L c) (hLC : LC fs fw lz t0) (hfa : fa.toInt = 0) (htp : t0.length ≤ pos) : Mg l yX9_readLine wsX9_readLine ({ frames := 57, cells := 0, slots := 0, locals := 2104 }) D Y [(tp, .inr (8, [.ref tb, .int tl, .ref lw, .int pl, .int fa])), (tb, .inl (Y 0, 120, .inl fb)), (lw, .inr (4, [.ref ws_, .ref ww, .ref wt, .ref wn, .ref wg, .ref wi, .int lz])), (ws_, .inl (Y 0, 128, .inl fs)), (ww, .inl (Y 0, 128, .inl fw))] [.ref tp] 0 0 (fun vv__ ww__ => (∃ (q : Nat), ∃ (x_ : Lin), ∃ (pl2 : Int32), ∃ (lz2 : Int32), ∃ (fs2 : Nat → Int32), ∃ (fw2 : Nat → Int32), vv__ = none ∧ ww__ = [(tp, .inr (8, [.ref tb, .int tl, .ref lw, .int pl2, .int fa])), (tb, .inl (Y 0, 120, .inl fb)), (lw, .inr (4, [.ref ws_, .ref ww, .ref wt, .ref wn, .ref wg, .ref wi, .int lz2])), (ws_, .inl (Y 0, 128, .inl fs2)), (ww, .inl (Y 0, 128, .inl fw2))] ∧ (pl2.toInt = ((q : Nat) : Int)) ∧ (pLn c pos = (q, some x_)) ∧ (pos ≤ q ∧ q ≤ L ∧ (t0 ++ codeL t0.length x_).length ≤ q + 1) ∧ (LC fs2 fw2 lz2 (t0 ++ codeL t0.length x_))) ∨ (∃ (q : Nat), ∃ (t1 : List Tok), ∃ (pl2 : Int32), ∃ (fa2 : Int32), ∃ (lz2 : Int32), ∃ (fs2 : Nat → Int32), ∃ (fw2 : Nat → Int32), vv__ = none ∧ ww__ = [(tp, .inr (8, [.ref tb, .int tl, .ref lw, .int pl2, .int fa2])), (tb, .inl (Y 0, 120, .inl fb)), (lw, .inr (4, [.ref ws_, .ref ww, .ref wt, .ref wn, .ref wg, .ref wi, .int lz2])), (ws_, .inl (Y 0, 128, .inl fs2)), (ww, .inl (Y 0, 128, .inl fw2))] ∧ (pl2.toInt = ((q : Nat) : Int)) ∧ (pLn c pos = (q, none)) ∧ (q ≤ L) ∧ (fa2.toInt ≠ 0 ∨ (48 ≤ c q ∧ c q ≤ 57)) ∧ (LC fs2 fw2 lz2 t1))) := by
  refine Mg_of (cc := cX9_readLine) (maxL := 2) (ret := none) (ls0 := [(0, .ref tp)]) RX9 (by decide) rfl rfl rfl (Nat.le_of_ble_eq_true rfl) (fun p__ e__ s__ m__ b__ t__ c__ X hr hn => ?_)
  refine V_aload_n X 0 rfl dX9_readLine_0 ?_
  refine V_iconst (v := (0 : Int32)) X (by decide) dX9_readLine_1 ?_
  refine V_iconst (v := (0 : Int32)) X (by decide) dX9_readLine_2 ?_
  refine V_callV (C := RX9) (wr := []) (st := []) X (c_X9_readTerms_00 l D Y tp tb lw tl pl fa pos L c ws_ ww wt wn wg wi lz fs fw t0 fb ttl hL tpl hpL hCH hLC hfa htp) 2 gX9_readLine_X9_readTerms rfl (by decide +kernel) ⟨rfl, rfl⟩ ⟨Nat.le_of_ble_eq_true rfl, Nat.le_of_ble_eq_true rfl⟩ [0, 1, 2, 3, 4] [] rfl rfl rfl rfl (by decide) (ci := 8) rfl rfl 0 rfl rfl rfl (Nat.le_of_ble_eq_true rfl) ⟨Nat.le_of_ble_eq_true rfl, Nat.le_of_ble_eq_true rfl⟩ dX9_readLine_3 (fun v_3 w_3 h_3 => ?_)
  rcases h_3 with ⟨q_f, ts_f, pl2_4, lz2_5, fs2_6, fw2_7, rfl, rfl, tplf, hRf, hqbf, hLf⟩ | ⟨q_f, t1_f, pl2_14, fa2_15, lz2_16, fs2_17, fw2_18, rfl, rfl, tplf, hRf, hqLf, hDf, hLf⟩
  · refine V_to (pc' := 6) (ls' := [(0, .ref tp)]) (st' := []) (ws' := [(tp, .inr (8, [.ref tb, .int tl, .ref lw, .int pl2_4, .int fa])), (tb, .inl (Y 0, 120, .inl fb)), (lw, .inr (4, [.ref ws_, .ref ww, .ref wt, .ref wn, .ref wg, .ref wi, .int lz2_5])), (ws_, .inl (Y 0, 128, .inl fs2_6)), (ww, .inl (Y 0, 128, .inl fw2_7))]) ?_ rfl rfl rfl rfl
    refine V_aload_n X 0 rfl dX9_readLine_6 ?_
    refine V_callV (C := RX9) (wr := [(lw, .inr (4, [.ref ws_, .ref ww, .ref wt, .ref wn, .ref wg, .ref wi, .int lz2_5])), (ws_, .inl (Y 0, 128, .inl fs2_6)), (ww, .inl (Y 0, 128, .inl fw2_7))]) (st := []) X (c_X9_peek l D Y tp tb lw tl pl2_4 fa q_f L c fb ttl hL tplf (by omega) hCH) 0 gX9_readLine_X9_peek rfl (by decide +kernel) ⟨rfl, rfl⟩ ⟨Nat.le_of_ble_eq_true rfl, Nat.le_of_ble_eq_true rfl⟩ [0, 1] [2, 3, 4] rfl rfl rfl rfl (by decide) (ci := 8) rfl rfl 0 rfl rfl rfl (Nat.le_of_ble_eq_true rfl) ⟨Nat.le_of_ble_eq_true rfl, Nat.le_of_ble_eq_true rfl⟩ dX9_readLine_7 (fun v_7 w_7 h_7 => ?_)
    obtain ⟨r_25, rfl, rfl, hhpk_26, hhpv_27⟩ := h_7
    refine V_to (pc' := 10) (ls' := [(0, .ref tp)]) (st' := [.int r_25]) (ws' := [(lw, .inr (4, [.ref ws_, .ref ww, .ref wt, .ref wn, .ref wg, .ref wi, .int lz2_5])), (ws_, .inl (Y 0, 128, .inl fs2_6)), (ww, .inl (Y 0, 128, .inl fw2_7)), (tp, .inr (8, [.ref tb, .int tl, .ref lw, .int pl2_4, .int fa])), (tb, .inl (Y 0, 120, .inl fb))]) ?_ rfl rfl rfl rfl
    refine V_bipush (v := (63 : Int32)) X (by decide) dX9_readLine_10 ?_
    have hpq := PK_0 hhpk_26 hfa
    refine V_icmp_eq X rfl (show (63 : Int32).toInt = 63 from by decide) 26 dX9_readLine_12 (by decide) (fun c_12 => ?_) (fun c_12 => ?_)
    · have hc63 : c q_f = 63 := PK_eq hpq (by omega) (by decide) (by decide)
      have hqlt := CHR_lt hCH (show c q_f ≠ -1 by omega)
      refine V_aload_n X 0 rfl dX9_readLine_26 ?_
      refine V_dup X rfl dX9_readLine_27 ?_
      refine V_get (C := RX9) (T := TX9) (N := 5) (ci := 8) (v := .int pl2_4) X in_X9_readLine_X9 3 rfl rfl 3 (by decide) (List.mem_of_getElem? (i := 2) rfl) rfl rfl dX9_readLine_28 ?_
      refine V_iconst (v := (1 : Int32)) X (by decide) dX9_readLine_31 ?_
      refine V_iaddZ X tplf (show (1 : Int32).toInt = 1 from by decide) (by omega) (by omega) dX9_readLine_32 (fun x_28 ex_28 tx_28 => ?_)
      have tx_28 : x_28.toInt = (((q_f + 1) : Nat) : Int) := by omega
      refine V_put (C := RX9) (T := TX9) (N := 5) (ci := 8) (v := .int x_28) (ty := tyX9 3) (ws' := [(lw, .inr (4, [.ref ws_, .ref ww, .ref wt, .ref wn, .ref wg, .ref wi, .int lz2_5])), (ws_, .inl (Y 0, 128, .inl fs2_6)), (ww, .inl (Y 0, 128, .inl fw2_7)), (tp, .inr (8, [.ref tb, .int tl, .ref lw, .int x_28, .int fa])), (tb, .inl (Y 0, 120, .inl fb))]) X in_X9_readLine_X9 3 rfl rfl 3 (by decide) (List.mem_of_getElem? (i := 2) rfl) rfl tyX9 tyX9_ok nmX9 rfl (tyX9_ok 3 (by decide)) rfl rfl (Nat.le_of_ble_eq_true rfl) rfl dX9_readLine_33 ?_
      refine V_aload_n X 0 rfl dX9_readLine_36 ?_
      refine V_get (C := RX9) (T := TX9) (N := 5) (ci := 8) (v := .ref lw) X in_X9_readLine_X9 3 rfl rfl 2 (by decide) (List.mem_of_getElem? (i := 1) rfl) rfl rfl dX9_readLine_37 ?_
      refine V_callV (C := RX5) (wr := [(ws_, .inl (Y 0, 128, .inl fs2_6)), (ww, .inl (Y 0, 128, .inl fw2_7)), (tp, .inr (8, [.ref tb, .int tl, .ref lw, .int x_28, .int fa])), (tb, .inl (Y 0, 120, .inl fb))]) (st := []) X (c_X5_size l D Y lw ws_ ww wt wn wg wi lz2_5) 0 gX9_readLine_X5_size rfl (by decide +kernel) ⟨rfl, rfl⟩ ⟨Nat.le_of_ble_eq_true rfl, Nat.le_of_ble_eq_true rfl⟩ [0] [1, 2, 3, 4] rfl rfl rfl rfl (by decide) (ci := 4) rfl rfl 0 rfl rfl rfl (Nat.le_of_ble_eq_true rfl) ⟨Nat.le_of_ble_eq_true rfl, Nat.le_of_ble_eq_true rfl⟩ dX9_readLine_40 (fun v_40 w_40 h_40 => ?_)
      obtain ⟨rfl, rfl⟩ := h_40
      refine V_to (pc' := 43) (ls' := [(0, .ref tp)]) (st' := [.int lz2_5]) (ws' := [(ws_, .inl (Y 0, 128, .inl fs2_6)), (ww, .inl (Y 0, 128, .inl fw2_7)), (tp, .inr (8, [.ref tb, .int tl, .ref lw, .int x_28, .int fa])), (tb, .inl (Y 0, 120, .inl fb)), (lw, .inr (4, [.ref ws_, .ref ww, .ref wt, .ref wn, .ref wg, .ref wi, .int lz2_5]))]) ?_ rfl rfl rfl rfl
      refine V_istore_n (ls' := [(1, .int lz2_5), (0, .ref tp)]) X (by decide) rfl dX9_readLine_43 ?_
      refine V_aload_n X 1 rfl dX9_readLine_44 ?_
      refine V_get (C := RX9) (T := TX9) (N := 5) (ci := 8) (v := .ref lw) X in_X9_readLine_X9 2 rfl rfl 2 (by decide) (List.mem_of_getElem? (i := 1) rfl) rfl rfl dX9_readLine_45 ?_
      refine V_bipush (v := (63 : Int32)) X (by decide) dX9_readLine_48 ?_
      refine V_iconst (v := (0 : Int32)) X (by decide) dX9_readLine_50 ?_
      refine V_callV (C := RX5) (wr := [(tp, .inr (8, [.ref tb, .int tl, .ref lw, .int x_28, .int fa])), (tb, .inl (Y 0, 120, .inl fb))]) (st := []) X (c_X5_addT l D Y lw ws_ ww wt wn wg wi lz2_5 fs2_6 fw2_7 (t0 ++ ts_f) (63 : Int32) (0 : Int32) hLf) 2 gX9_readLine_X5_add rfl (by decide +kernel) ⟨rfl, rfl⟩ ⟨Nat.le_of_ble_eq_true rfl, Nat.le_of_ble_eq_true rfl⟩ [4, 0, 1] [2, 3] rfl rfl rfl rfl (by decide) (ci := 4) rfl rfl 0 rfl rfl rfl (Nat.le_of_ble_eq_true rfl) ⟨Nat.le_of_ble_eq_true rfl, Nat.le_of_ble_eq_true rfl⟩ dX9_readLine_51 (fun v_51 w_51 h_51 => ?_)
      obtain ⟨lz2_31, fs2_32, fw2_33, t_b, rfl, rfl, hLb, htb⟩ := h_51
      refine V_to (pc' := 54) (ls' := [(1, .int lz2_5), (0, .ref tp)]) (st' := []) (ws' := [(tp, .inr (8, [.ref tb, .int tl, .ref lw, .int x_28, .int fa])), (tb, .inl (Y 0, 120, .inl fb)), (lw, .inr (4, [.ref ws_, .ref ww, .ref wt, .ref wn, .ref wg, .ref wi, .int lz2_31])), (ws_, .inl (Y 0, 128, .inl fs2_32)), (ww, .inl (Y 0, 128, .inl fw2_33))]) ?_ rfl rfl rfl rfl
      have hc_0 : (0 : Int32).toInt = 0 := by decide
      have hc_63 : (63 : Int32).toInt = 63 := by decide
      have htb9 : t_b = t0 ++ ts_f ++ [(63, 0)] := by have h9 := htb (by rw [List.length_append]; omega); rw [show (63 : Int32).toInt = 63 from by decide, show (0 : Int32).toInt = 0 from by decide] at h9; exact h9
      refine V_aload_n X 1 rfl dX9_readLine_54 ?_
      refine V_iconst (v := (0 : Int32)) X (by decide) dX9_readLine_55 ?_
      refine V_iconst (v := (0 : Int32)) X (by decide) dX9_readLine_56 ?_
      refine V_callV (C := RX9) (wr := []) (st := []) X (c_X9_readTerms_00 l D Y tp tb lw tl x_28 fa (q_f + 1) L c ws_ ww wt wn wg wi lz2_31 fs2_32 fw2_33 t_b fb ttl hL tx_28 (by omega) hCH hLb hfa (by rw [htb9, List.length_append, List.length_append, List.length_singleton]; omega)) 2 gX9_readLine_X9_readTerms rfl (by decide +kernel) ⟨rfl, rfl⟩ ⟨Nat.le_of_ble_eq_true rfl, Nat.le_of_ble_eq_true rfl⟩ [0, 1, 2, 3, 4] [] rfl rfl rfl rfl (by decide) (ci := 8) rfl rfl 0 rfl rfl rfl (Nat.le_of_ble_eq_true rfl) ⟨Nat.le_of_ble_eq_true rfl, Nat.le_of_ble_eq_true rfl⟩ dX9_readLine_57 (fun v_57 w_57 h_57 => ?_)
      rcases h_57 with ⟨q_g, ts_g, pl2_40, lz2_41, fs2_42, fw2_43, rfl, rfl, tplg, hRg, hqbg, hLg⟩ | ⟨q_g, t1_g, pl2_50, fa2_51, lz2_52, fs2_53, fw2_54, rfl, rfl, tplg, hRg, hqLg, hDg, hLg⟩
      · refine V_to (pc' := 60) (ls' := [(1, .int lz2_5), (0, .ref tp)]) (st' := []) (ws' := [(tp, .inr (8, [.ref tb, .int tl, .ref lw, .int pl2_40, .int fa])), (tb, .inl (Y 0, 120, .inl fb)), (lw, .inr (4, [.ref ws_, .ref ww, .ref wt, .ref wn, .ref wg, .ref wi, .int lz2_41])), (ws_, .inl (Y 0, 128, .inl fs2_42)), (ww, .inl (Y 0, 128, .inl fw2_43))]) ?_ rfl rfl rfl rfl
        refine V_aload_n X 1 rfl dX9_readLine_60 ?_
        refine V_get (C := RX9) (T := TX9) (N := 5) (ci := 8) (v := .ref lw) X in_X9_readLine_X9 0 rfl rfl 2 (by decide) (List.mem_of_getElem? (i := 1) rfl) rfl rfl dX9_readLine_61 ?_
        refine V_bipush (v := (59 : Int32)) X (by decide) dX9_readLine_64 ?_
        refine V_iconst (v := (0 : Int32)) X (by decide) dX9_readLine_66 ?_
        refine V_callV (C := RX5) (wr := [(tp, .inr (8, [.ref tb, .int tl, .ref lw, .int pl2_40, .int fa])), (tb, .inl (Y 0, 120, .inl fb))]) (st := []) X (c_X5_addT l D Y lw ws_ ww wt wn wg wi lz2_41 fs2_42 fw2_43 (t_b ++ ts_g) (59 : Int32) (0 : Int32) hLg) 2 gX9_readLine_X5_add rfl (by decide +kernel) ⟨rfl, rfl⟩ ⟨Nat.le_of_ble_eq_true rfl, Nat.le_of_ble_eq_true rfl⟩ [2, 3, 4] [0, 1] rfl rfl rfl rfl (by decide) (ci := 4) rfl rfl 0 rfl rfl rfl (Nat.le_of_ble_eq_true rfl) ⟨Nat.le_of_ble_eq_true rfl, Nat.le_of_ble_eq_true rfl⟩ dX9_readLine_67 (fun v_67 w_67 h_67 => ?_)
        obtain ⟨lz2_61, fs2_62, fw2_63, t_d, rfl, rfl, hLd, htd⟩ := h_67
        refine V_to (pc' := 70) (ls' := [(1, .int lz2_5), (0, .ref tp)]) (st' := []) (ws' := [(tp, .inr (8, [.ref tb, .int tl, .ref lw, .int pl2_40, .int fa])), (tb, .inl (Y 0, 120, .inl fb)), (lw, .inr (4, [.ref ws_, .ref ww, .ref wt, .ref wn, .ref wg, .ref wi, .int lz2_61])), (ws_, .inl (Y 0, 128, .inl fs2_62)), (ww, .inl (Y 0, 128, .inl fw2_63))]) ?_ rfl rfl rfl rfl
        have hc_59 : (59 : Int32).toInt = 59 := by decide
        have htd9 : t_d = (t0 ++ ts_f) ++ ((63, 0) :: (ts_g ++ [(59, 0)])) := by have h9 := htd (by rw [htb9, List.length_append, List.length_append, List.length_append, List.length_singleton]; omega); rw [show (59 : Int32).toInt = 59 from by decide, show (0 : Int32).toInt = 0 from by decide, htb9] at h9; rw [h9]; simp only [List.append_assoc, List.singleton_append, List.cons_append, List.nil_append]
        rw [htd9] at hLd
        have hLe := LC_lead hLd hLd.1
        have hlen : ((t0 ++ ts_f) ++ (((63 : Int), (0 : Int)) :: (ts_g ++ [((59 : Int), (0 : Int))]))).length = t0.length + ts_f.length + 1 + ts_g.length + 1 := by simp only [List.length_append, List.length_cons, List.length_nil]; omega
        rw [hlen] at hLe
        have hcl : t0 ++ codeL t0.length (some ts_f, ts_g) = (t0 ++ ts_f) ++ ((63, ((t0.length + ts_f.length + 1 + ts_g.length + 1 : Nat) : Int)) :: (ts_g ++ [(59, 0)])) := by rw [List.append_assoc]; rfl
        refine V_aload_n X 1 rfl dX9_readLine_70 ?_
        refine V_get (C := RX9) (T := TX9) (N := 5) (ci := 8) (v := .ref lw) X in_X9_readLine_X9 0 rfl rfl 2 (by decide) (List.mem_of_getElem? (i := 1) rfl) rfl rfl dX9_readLine_71 ?_
        refine V_iload_n X 0 rfl dX9_readLine_74 ?_
        refine V_callV (C := RX5) (wr := [(tp, .inr (8, [.ref tb, .int tl, .ref lw, .int pl2_40, .int fa])), (tb, .inl (Y 0, 120, .inl fb)), (ws_, .inl (Y 0, 128, .inl fs2_62))]) (st := []) X (c_X5_leadOn l D Y lw ws_ ww wt wn wg wi lz2_61 lz2_5 ((t0 ++ ts_f).length) fw2_63 hLf.1 (by rw [List.length_append]; omega)) 1 gX9_readLine_X5_leadOn rfl (by decide +kernel) ⟨rfl, rfl⟩ ⟨Nat.le_of_ble_eq_true rfl, Nat.le_of_ble_eq_true rfl⟩ [2, 4] [0, 1, 3] rfl rfl rfl rfl (by decide) (ci := 4) rfl rfl 0 rfl rfl rfl (Nat.le_of_ble_eq_true rfl) ⟨Nat.le_of_ble_eq_true rfl, Nat.le_of_ble_eq_true rfl⟩ dX9_readLine_75 (fun v_75 w_75 h_75 => ?_)
        obtain ⟨rfl, rfl⟩ := h_75
        refine V_to (pc' := 78) (ls' := [(1, .int lz2_5), (0, .ref tp)]) (st' := []) (ws' := [(tp, .inr (8, [.ref tb, .int tl, .ref lw, .int pl2_40, .int fa])), (tb, .inl (Y 0, 120, .inl fb)), (ws_, .inl (Y 0, 128, .inl fs2_62)), (lw, .inr (4, [.ref ws_, .ref ww, .ref wt, .ref wn, .ref wg, .ref wi, .int lz2_61])), (ww, .inl (Y 0, 128, .inl (upd fw2_63 ((t0 ++ ts_f).length) lz2_61)))]) ?_ rfl rfl rfl rfl
        refine V_ws (ws' := [(tp, .inr (8, [.ref tb, .int tl, .ref lw, .int pl2_40, .int fa])), (tb, .inl (Y 0, 120, .inl fb)), (lw, .inr (4, [.ref ws_, .ref ww, .ref wt, .ref wn, .ref wg, .ref wi, .int lz2_61])), (ws_, .inl (Y 0, 128, .inl fs2_62)), (ww, .inl (Y 0, 128, .inl (upd fw2_63 ((t0 ++ ts_f).length) lz2_61)))]) [0, 1, 3, 2, 4] rfl rfl rfl ?_
        exact V_vret X hr dX9_readLine_78 (Or.inl ⟨q_g, (some ts_f, ts_g), pl2_40, lz2_61, fs2_62, (upd fw2_63 ((t0 ++ ts_f).length) lz2_61), rfl, rfl, (by omega), (pLn_2 hRf hc63 hRg), ⟨by omega, by omega, by rw [hcl]; simp only [List.length_append, List.length_cons, List.length_nil]; omega⟩, (hcl ▸ hLe)⟩)
      · refine V_to (pc' := 60) (ls' := [(1, .int lz2_5), (0, .ref tp)]) (st' := []) (ws' := [(tp, .inr (8, [.ref tb, .int tl, .ref lw, .int pl2_50, .int fa2_51])), (tb, .inl (Y 0, 120, .inl fb)), (lw, .inr (4, [.ref ws_, .ref ww, .ref wt, .ref wn, .ref wg, .ref wi, .int lz2_52])), (ws_, .inl (Y 0, 128, .inl fs2_53)), (ww, .inl (Y 0, 128, .inl fw2_54))]) ?_ rfl rfl rfl rfl
        refine V_aload_n X 1 rfl dX9_readLine_60 ?_
        refine V_get (C := RX9) (T := TX9) (N := 5) (ci := 8) (v := .ref lw) X in_X9_readLine_X9 0 rfl rfl 2 (by decide) (List.mem_of_getElem? (i := 1) rfl) rfl rfl dX9_readLine_61 ?_
        refine V_bipush (v := (59 : Int32)) X (by decide) dX9_readLine_64 ?_
        refine V_iconst (v := (0 : Int32)) X (by decide) dX9_readLine_66 ?_
        refine V_callV (C := RX5) (wr := [(tp, .inr (8, [.ref tb, .int tl, .ref lw, .int pl2_50, .int fa2_51])), (tb, .inl (Y 0, 120, .inl fb))]) (st := []) X (c_X5_addT l D Y lw ws_ ww wt wn wg wi lz2_52 fs2_53 fw2_54 t1_g (59 : Int32) (0 : Int32) hLg) 2 gX9_readLine_X5_add rfl (by decide +kernel) ⟨rfl, rfl⟩ ⟨Nat.le_of_ble_eq_true rfl, Nat.le_of_ble_eq_true rfl⟩ [2, 3, 4] [0, 1] rfl rfl rfl rfl (by decide) (ci := 4) rfl rfl 0 rfl rfl rfl (Nat.le_of_ble_eq_true rfl) ⟨Nat.le_of_ble_eq_true rfl, Nat.le_of_ble_eq_true rfl⟩ dX9_readLine_67 (fun v_67 w_67 h_67 => ?_)
        obtain ⟨lz2_69, fs2_70, fw2_71, t_d, rfl, rfl, hLd, htd⟩ := h_67
        refine V_to (pc' := 70) (ls' := [(1, .int lz2_5), (0, .ref tp)]) (st' := []) (ws' := [(tp, .inr (8, [.ref tb, .int tl, .ref lw, .int pl2_50, .int fa2_51])), (tb, .inl (Y 0, 120, .inl fb)), (lw, .inr (4, [.ref ws_, .ref ww, .ref wt, .ref wn, .ref wg, .ref wi, .int lz2_69])), (ws_, .inl (Y 0, 128, .inl fs2_70)), (ww, .inl (Y 0, 128, .inl fw2_71))]) ?_ rfl rfl rfl rfl
        have hc_59 : (59 : Int32).toInt = 59 := by decide
        refine V_aload_n X 1 rfl dX9_readLine_70 ?_
        refine V_get (C := RX9) (T := TX9) (N := 5) (ci := 8) (v := .ref lw) X in_X9_readLine_X9 0 rfl rfl 2 (by decide) (List.mem_of_getElem? (i := 1) rfl) rfl rfl dX9_readLine_71 ?_
        refine V_iload_n X 0 rfl dX9_readLine_74 ?_
        refine V_callV (C := RX5) (wr := [(tp, .inr (8, [.ref tb, .int tl, .ref lw, .int pl2_50, .int fa2_51])), (tb, .inl (Y 0, 120, .inl fb)), (ws_, .inl (Y 0, 128, .inl fs2_70))]) (st := []) X (c_X5_leadOn l D Y lw ws_ ww wt wn wg wi lz2_69 lz2_5 ((t0 ++ ts_f).length) fw2_71 hLf.1 (by rw [List.length_append]; omega)) 1 gX9_readLine_X5_leadOn rfl (by decide +kernel) ⟨rfl, rfl⟩ ⟨Nat.le_of_ble_eq_true rfl, Nat.le_of_ble_eq_true rfl⟩ [2, 4] [0, 1, 3] rfl rfl rfl rfl (by decide) (ci := 4) rfl rfl 0 rfl rfl rfl (Nat.le_of_ble_eq_true rfl) ⟨Nat.le_of_ble_eq_true rfl, Nat.le_of_ble_eq_true rfl⟩ dX9_readLine_75 (fun v_75 w_75 h_75 => ?_)
        obtain ⟨rfl, rfl⟩ := h_75
        refine V_to (pc' := 78) (ls' := [(1, .int lz2_5), (0, .ref tp)]) (st' := []) (ws' := [(tp, .inr (8, [.ref tb, .int tl, .ref lw, .int pl2_50, .int fa2_51])), (tb, .inl (Y 0, 120, .inl fb)), (ws_, .inl (Y 0, 128, .inl fs2_70)), (lw, .inr (4, [.ref ws_, .ref ww, .ref wt, .ref wn, .ref wg, .ref wi, .int lz2_69])), (ww, .inl (Y 0, 128, .inl (upd fw2_71 ((t0 ++ ts_f).length) lz2_69)))]) ?_ rfl rfl rfl rfl
        obtain ⟨t_z, hLz⟩ := LC_any fs2_70 (upd fw2_71 ((t0 ++ ts_f).length) lz2_69) hLd.1 hLd.2.1
        refine V_ws (ws' := [(tp, .inr (8, [.ref tb, .int tl, .ref lw, .int pl2_50, .int fa2_51])), (tb, .inl (Y 0, 120, .inl fb)), (lw, .inr (4, [.ref ws_, .ref ww, .ref wt, .ref wn, .ref wg, .ref wi, .int lz2_69])), (ws_, .inl (Y 0, 128, .inl fs2_70)), (ww, .inl (Y 0, 128, .inl (upd fw2_71 ((t0 ++ ts_f).length) lz2_69)))]) [0, 1, 3, 2, 4] rfl rfl rfl ?_
        exact V_vret X hr dX9_readLine_78 (Or.inr (⟨q_g, t_z, pl2_50, fa2_51, lz2_69, fs2_70, (upd fw2_71 ((t0 ++ ts_f).length) lz2_69), rfl, rfl, (by omega), (pLn_2n hRf hc63 hRg), (by omega), hDg, hLz⟩))
    · refine V_aload_n X 0 rfl dX9_readLine_15 ?_
      refine V_get (C := RX9) (T := TX9) (N := 5) (ci := 8) (v := .ref lw) X in_X9_readLine_X9 3 rfl rfl 2 (by decide) (List.mem_of_getElem? (i := 1) rfl) rfl rfl dX9_readLine_16 ?_
      refine V_bipush (v := (59 : Int32)) X (by decide) dX9_readLine_19 ?_
      refine V_iconst (v := (0 : Int32)) X (by decide) dX9_readLine_21 ?_
      refine V_callV (C := RX5) (wr := [(tp, .inr (8, [.ref tb, .int tl, .ref lw, .int pl2_4, .int fa])), (tb, .inl (Y 0, 120, .inl fb))]) (st := []) X (c_X5_addT l D Y lw ws_ ww wt wn wg wi lz2_5 fs2_6 fw2_7 (t0 ++ ts_f) (59 : Int32) (0 : Int32) hLf) 2 gX9_readLine_X5_add rfl (by decide +kernel) ⟨rfl, rfl⟩ ⟨Nat.le_of_ble_eq_true rfl, Nat.le_of_ble_eq_true rfl⟩ [0, 1, 2] [3, 4] rfl rfl rfl rfl (by decide) (ci := 4) rfl rfl 0 rfl rfl rfl (Nat.le_of_ble_eq_true rfl) ⟨Nat.le_of_ble_eq_true rfl, Nat.le_of_ble_eq_true rfl⟩ dX9_readLine_22 (fun v_22 w_22 h_22 => ?_)
      obtain ⟨lz2_77, fs2_78, fw2_79, t_a, rfl, rfl, hLa, hta⟩ := h_22
      refine V_to (pc' := 25) (ls' := [(0, .ref tp)]) (st' := []) (ws' := [(tp, .inr (8, [.ref tb, .int tl, .ref lw, .int pl2_4, .int fa])), (tb, .inl (Y 0, 120, .inl fb)), (lw, .inr (4, [.ref ws_, .ref ww, .ref wt, .ref wn, .ref wg, .ref wi, .int lz2_77])), (ws_, .inl (Y 0, 128, .inl fs2_78)), (ww, .inl (Y 0, 128, .inl fw2_79))]) ?_ rfl rfl rfl rfl
      have hc_0 : (0 : Int32).toInt = 0 := by decide
      have hc_59 : (59 : Int32).toInt = 59 := by decide
      have hta9 : t_a = t0 ++ (ts_f ++ [(59, 0)]) := by have h9 := hta (by rw [List.length_append]; omega); rw [show (59 : Int32).toInt = 59 from by decide, show (0 : Int32).toInt = 0 from by decide] at h9; rw [h9, LC_app]
      exact V_vret X hr dX9_readLine_25 (Or.inl ⟨q_f, (none, ts_f), pl2_4, lz2_77, fs2_78, fw2_79, rfl, rfl, (by omega), (pLn_1 hRf (PK_ne hpq c_12 (by decide))), ⟨by omega, by omega, by show (t0 ++ (ts_f ++ [(59, 0)])).length ≤ q_f + 1; rw [List.length_append, List.length_append, List.length_singleton]; omega⟩, (show LC _ _ _ (t0 ++ (ts_f ++ [(59, 0)])) from hta9 ▸ hLa)⟩)
  · refine V_to (pc' := 6) (ls' := [(0, .ref tp)]) (st' := []) (ws' := [(tp, .inr (8, [.ref tb, .int tl, .ref lw, .int pl2_14, .int fa2_15])), (tb, .inl (Y 0, 120, .inl fb)), (lw, .inr (4, [.ref ws_, .ref ww, .ref wt, .ref wn, .ref wg, .ref wi, .int lz2_16])), (ws_, .inl (Y 0, 128, .inl fs2_17)), (ww, .inl (Y 0, 128, .inl fw2_18))]) ?_ rfl rfl rfl rfl
    refine V_aload_n X 0 rfl dX9_readLine_6 ?_
    refine V_callV (C := RX9) (wr := [(lw, .inr (4, [.ref ws_, .ref ww, .ref wt, .ref wn, .ref wg, .ref wi, .int lz2_16])), (ws_, .inl (Y 0, 128, .inl fs2_17)), (ww, .inl (Y 0, 128, .inl fw2_18))]) (st := []) X (c_X9_peek l D Y tp tb lw tl pl2_14 fa2_15 q_f L c fb ttl hL tplf hqLf hCH) 0 gX9_readLine_X9_peek rfl (by decide +kernel) ⟨rfl, rfl⟩ ⟨Nat.le_of_ble_eq_true rfl, Nat.le_of_ble_eq_true rfl⟩ [0, 1] [2, 3, 4] rfl rfl rfl rfl (by decide) (ci := 8) rfl rfl 0 rfl rfl rfl (Nat.le_of_ble_eq_true rfl) ⟨Nat.le_of_ble_eq_true rfl, Nat.le_of_ble_eq_true rfl⟩ dX9_readLine_7 (fun v_7 w_7 h_7 => ?_)
    obtain ⟨r_84, rfl, rfl, hhpk_85, hhpv_86⟩ := h_7
    refine V_to (pc' := 10) (ls' := [(0, .ref tp)]) (st' := [.int r_84]) (ws' := [(lw, .inr (4, [.ref ws_, .ref ww, .ref wt, .ref wn, .ref wg, .ref wi, .int lz2_16])), (ws_, .inl (Y 0, 128, .inl fs2_17)), (ww, .inl (Y 0, 128, .inl fw2_18)), (tp, .inr (8, [.ref tb, .int tl, .ref lw, .int pl2_14, .int fa2_15])), (tb, .inl (Y 0, 120, .inl fb))]) ?_ rfl rfl rfl rfl
    refine V_bipush (v := (63 : Int32)) X (by decide) dX9_readLine_10 ?_
    have hpd := PK_m1 hhpk_85 hDf
    refine V_icmp_eq X rfl (show (63 : Int32).toInt = 63 from by decide) 26 dX9_readLine_12 (by decide) (fun c_12 => False.elim (by omega)) (fun c_12 => ?_)
    refine V_aload_n X 0 rfl dX9_readLine_15 ?_
    refine V_get (C := RX9) (T := TX9) (N := 5) (ci := 8) (v := .ref lw) X in_X9_readLine_X9 3 rfl rfl 2 (by decide) (List.mem_of_getElem? (i := 1) rfl) rfl rfl dX9_readLine_16 ?_
    refine V_bipush (v := (59 : Int32)) X (by decide) dX9_readLine_19 ?_
    refine V_iconst (v := (0 : Int32)) X (by decide) dX9_readLine_21 ?_
    refine V_callV (C := RX5) (wr := [(tp, .inr (8, [.ref tb, .int tl, .ref lw, .int pl2_14, .int fa2_15])), (tb, .inl (Y 0, 120, .inl fb))]) (st := []) X (c_X5_addT l D Y lw ws_ ww wt wn wg wi lz2_16 fs2_17 fw2_18 t1_f (59 : Int32) (0 : Int32) hLf) 2 gX9_readLine_X5_add rfl (by decide +kernel) ⟨rfl, rfl⟩ ⟨Nat.le_of_ble_eq_true rfl, Nat.le_of_ble_eq_true rfl⟩ [0, 1, 2] [3, 4] rfl rfl rfl rfl (by decide) (ci := 4) rfl rfl 0 rfl rfl rfl (Nat.le_of_ble_eq_true rfl) ⟨Nat.le_of_ble_eq_true rfl, Nat.le_of_ble_eq_true rfl⟩ dX9_readLine_22 (fun v_22 w_22 h_22 => ?_)
    obtain ⟨lz2_88, fs2_89, fw2_90, t_a, rfl, rfl, hLa, hta⟩ := h_22
    refine V_to (pc' := 25) (ls' := [(0, .ref tp)]) (st' := []) (ws' := [(tp, .inr (8, [.ref tb, .int tl, .ref lw, .int pl2_14, .int fa2_15])), (tb, .inl (Y 0, 120, .inl fb)), (lw, .inr (4, [.ref ws_, .ref ww, .ref wt, .ref wn, .ref wg, .ref wi, .int lz2_88])), (ws_, .inl (Y 0, 128, .inl fs2_89)), (ww, .inl (Y 0, 128, .inl fw2_90))]) ?_ rfl rfl rfl rfl
    have hc_0 : (0 : Int32).toInt = 0 := by decide
    have hc_59 : (59 : Int32).toInt = 59 := by decide
    exact V_vret X hr dX9_readLine_25 (Or.inr (⟨q_f, t_a, pl2_14, fa2_15, lz2_88, fs2_89, fw2_90, rfl, rfl, (by omega), (pLn_n hRf), (by omega), hDf, hLa⟩))

theorem in_X9_readInto_X9 : ∀ w ∈ wsX90, w ∈ wsX9_readInto := fun w h => List.mem_cons_of_mem _ (List.mem_append_left _ (List.mem_append_right _ h))
set_option maxHeartbeats 4000000 in
set_option maxRecDepth 100000 in
theorem c_X9_readInto (l : Launch) (D : va_G) (Y : Nat → ClassId) (tp : Nat) (lw : Nat) (tb : Nat) (tl : Int32) (lw0 : Nat) (pl : Int32) (fa : Int32) (L : Nat) (c : Nat → Int) (ws_ : Nat) (ww : Nat) (wt : Nat) (wn : Nat) (wg : Nat) (wi : Nat) (lz : Int32) (fb : Nat → Int32) (fs : Nat → Int32) (fw : Nat → Int32) (fi : Nat → Int32) (ttl : tl.toInt = ((L : Nat) : Int)) (hL : L ≤ 120) (hCH : CHR fb L c) : Mg l yX9_readInto wsX9_readInto ({ frames := 58, cells := 0, slots := 0, locals := 2125 }) D Y [(tp, .inr (8, [.ref tb, .int tl, .ref lw0, .int pl, .int fa])), (tb, .inl (Y 0, 120, .inl fb)), (lw, .inr (4, [.ref ws_, .ref ww, .ref wt, .ref wn, .ref wg, .ref wi, .int lz])), (ws_, .inl (Y 0, 128, .inl fs)), (ww, .inl (Y 0, 128, .inl fw)), (wi, .inl (Y 0, 640, .inl fi))] [.ref tp, .ref lw] 0 0 (fun vv__ ww__ => (∃ (ls : List Lin), ∃ (lz2 : Int32), ∃ (fs2 : Nat → Int32), ∃ (fw2 : Nat → Int32), ∃ (fi2 : Nat → Int32), ∃ (pl2 : Int32), ∃ (fa2 : Int32), vv__ = some (.int (-1 : Int32)) ∧ ww__ = [(tp, .inr (8, [.ref tb, .int (0 : Int32), .ref lw, .int pl2, .int fa2])), (tb, .inl (Y 0, 120, .inl fb)), (lw, .inr (4, [.ref ws_, .ref ww, .ref wt, .ref wn, .ref wg, .ref wi, .int lz2])), (ws_, .inl (Y 0, 128, .inl fs2)), (ww, .inl (Y 0, 128, .inl fw2)), (wi, .inl (Y 0, 640, .inl fi2))] ∧ (pAll c = (L, some ls)) ∧ (LC fs2 fw2 lz2 (codeT ls)) ∧ (∀ j, j < 640 → fi2 j = 0)) ∨ (∃ (r : Int32), ∃ (q : Nat), ∃ (lz2 : Int32), ∃ (fs2 : Nat → Int32), ∃ (fw2 : Nat → Int32), ∃ (fi2 : Nat → Int32), ∃ (pl2 : Int32), ∃ (fa2 : Int32), vv__ = some (.int r) ∧ ww__ = [(tp, .inr (8, [.ref tb, .int (0 : Int32), .ref lw, .int pl2, .int fa2])), (tb, .inl (Y 0, 120, .inl fb)), (lw, .inr (4, [.ref ws_, .ref ww, .ref wt, .ref wn, .ref wg, .ref wi, .int lz2])), (ws_, .inl (Y 0, 128, .inl fs2)), (ww, .inl (Y 0, 128, .inl fw2)), (wi, .inl (Y 0, 640, .inl fi2))] ∧ (r.toInt = ((q : Nat) : Int)) ∧ (pAll c = (q, none) ∨ ∃ ls, pAll c = (q, some ls) ∧ q < L) ∧ (q ≤ L))) := by
  refine Mg_of (cc := cX9_readInto) (maxL := 3) (ret := (some .int)) (ls0 := [(0, .ref tp), (1, .ref lw)]) RX9 (by decide) rfl rfl rfl (Nat.le_of_ble_eq_true rfl) (fun p__ e__ s__ m__ b__ t__ c__ X hr hn => ?_)
  refine V_aload_n X 0 rfl dX9_readInto_0 ?_
  refine V_aload_n X 1 rfl dX9_readInto_1 ?_
  refine V_put (C := RX9) (T := TX9) (N := 5) (ci := 8) (v := .ref lw) (ty := tyX9 2) (ws' := [(tp, .inr (8, [.ref tb, .int tl, .ref lw, .int pl, .int fa])), (tb, .inl (Y 0, 120, .inl fb)), (lw, .inr (4, [.ref ws_, .ref ww, .ref wt, .ref wn, .ref wg, .ref wi, .int lz])), (ws_, .inl (Y 0, 128, .inl fs)), (ww, .inl (Y 0, 128, .inl fw)), (wi, .inl (Y 0, 640, .inl fi))]) X in_X9_readInto_X9 0 rfl rfl 2 (by decide) (List.mem_of_getElem? (i := 1) rfl) rfl tyX9 tyX9_ok nmX9 rfl (tyX9_ok 2 (by decide)) rfl rfl (Nat.le_of_ble_eq_true rfl) rfl dX9_readInto_2 ?_
  refine V_aload_n X 0 rfl dX9_readInto_5 ?_
  refine V_get (C := RX9) (T := TX9) (N := 5) (ci := 8) (v := .ref lw) X in_X9_readInto_X9 0 rfl rfl 2 (by decide) (List.mem_of_getElem? (i := 1) rfl) rfl rfl dX9_readInto_6 ?_
  refine V_callV (C := RX5) (wr := [(tp, .inr (8, [.ref tb, .int tl, .ref lw, .int pl, .int fa])), (tb, .inl (Y 0, 120, .inl fb)), (ws_, .inl (Y 0, 128, .inl fs)), (ww, .inl (Y 0, 128, .inl fw))]) (st := []) X (c_X5_clear l D Y lw ws_ ww wt wn wg wi lz fi) 0 gX9_readInto_X5_clear rfl (by decide +kernel) ⟨rfl, rfl⟩ ⟨Nat.le_of_ble_eq_true rfl, Nat.le_of_ble_eq_true rfl⟩ [2, 5] [0, 1, 3, 4] rfl rfl rfl rfl (by decide) (ci := 4) rfl rfl 0 rfl rfl rfl (Nat.le_of_ble_eq_true rfl) ⟨Nat.le_of_ble_eq_true rfl, Nat.le_of_ble_eq_true rfl⟩ dX9_readInto_9 (fun v_9 w_9 h_9 => ?_)
  obtain ⟨fi2_2, rfl, rfl, hhf_3⟩ := h_9
  refine V_to (pc' := 12) (ls' := [(0, .ref tp), (1, .ref lw)]) (st' := []) (ws' := [(tp, .inr (8, [.ref tb, .int tl, .ref lw, .int pl, .int fa])), (tb, .inl (Y 0, 120, .inl fb)), (ws_, .inl (Y 0, 128, .inl fs)), (ww, .inl (Y 0, 128, .inl fw)), (lw, .inr (4, [.ref ws_, .ref ww, .ref wt, .ref wn, .ref wg, .ref wi, .int (0 : Int32)])), (wi, .inl (Y 0, 640, .inl fi2_2))]) ?_ rfl rfl rfl rfl
  have hL0 : LC fs fw (0 : Int32) [] := ⟨by decide, by decide, fun j hj => absurd hj (Nat.not_lt_zero j)⟩
  refine V_aload_n X 0 rfl dX9_readInto_12 ?_
  refine V_iconst (v := (0 : Int32)) X (by decide) dX9_readInto_13 ?_
  refine V_put (C := RX9) (T := TX9) (N := 5) (ci := 8) (v := .int (0 : Int32)) (ty := tyX9 3) (ws' := [(tp, .inr (8, [.ref tb, .int tl, .ref lw, .int (0 : Int32), .int fa])), (tb, .inl (Y 0, 120, .inl fb)), (ws_, .inl (Y 0, 128, .inl fs)), (ww, .inl (Y 0, 128, .inl fw)), (lw, .inr (4, [.ref ws_, .ref ww, .ref wt, .ref wn, .ref wg, .ref wi, .int (0 : Int32)])), (wi, .inl (Y 0, 640, .inl fi2_2))]) X in_X9_readInto_X9 0 rfl rfl 3 (by decide) (List.mem_of_getElem? (i := 2) rfl) rfl tyX9 tyX9_ok nmX9 rfl (tyX9_ok 3 (by decide)) rfl rfl (Nat.le_of_ble_eq_true rfl) rfl dX9_readInto_14 ?_
  refine V_aload_n X 0 rfl dX9_readInto_17 ?_
  refine V_iconst (v := (0 : Int32)) X (by decide) dX9_readInto_18 ?_
  refine V_put (C := RX9) (T := TX9) (N := 5) (ci := 8) (v := .int (0 : Int32)) (ty := tyX9 4) (ws' := [(tp, .inr (8, [.ref tb, .int tl, .ref lw, .int (0 : Int32), .int (0 : Int32)])), (tb, .inl (Y 0, 120, .inl fb)), (ws_, .inl (Y 0, 128, .inl fs)), (ww, .inl (Y 0, 128, .inl fw)), (lw, .inr (4, [.ref ws_, .ref ww, .ref wt, .ref wn, .ref wg, .ref wi, .int (0 : Int32)])), (wi, .inl (Y 0, 640, .inl fi2_2))]) X in_X9_readInto_X9 0 rfl rfl 4 (by decide) (List.mem_of_getElem? (i := 3) rfl) rfl tyX9 tyX9_ok nmX9 rfl (tyX9_ok 4 (by decide)) rfl rfl (Nat.le_of_ble_eq_true rfl) rfl dX9_readInto_19 ?_
  refine V_aload_n X 0 rfl dX9_readInto_22 ?_
  refine V_callV (C := RX9) (wr := [(wi, .inl (Y 0, 640, .inl fi2_2))]) (st := []) X (c_X9_readLine l D Y tp tb lw tl (0 : Int32) (0 : Int32) 0 L c ws_ ww wt wn wg wi (0 : Int32) fs fw ([] : List Tok) fb ttl hL (by decide) (Nat.zero_le _) hCH hL0 (by decide) (Nat.le_refl _)) 0 gX9_readInto_X9_readLine rfl (by decide +kernel) ⟨rfl, rfl⟩ ⟨Nat.le_of_ble_eq_true rfl, Nat.le_of_ble_eq_true rfl⟩ [0, 1, 4, 2, 3] [5] rfl rfl rfl rfl (by decide) (ci := 8) rfl rfl 0 rfl rfl rfl (Nat.le_of_ble_eq_true rfl) ⟨Nat.le_of_ble_eq_true rfl, Nat.le_of_ble_eq_true rfl⟩ dX9_readInto_23 (fun v_23 w_23 h_23 => ?_)
  rcases h_23 with ⟨q_f, x_f, pl2_7, lz2_8, fs2_9, fw2_10, rfl, rfl, tplf, hRf, hqbf, hLf⟩ | ⟨q_f, t1_f, pl2_17, fa2_18, lz2_19, fs2_20, fw2_21, rfl, rfl, tplf, hRf, hqLf, hDf, hLf⟩
  · refine V_to (pc' := 26) (ls' := [(0, .ref tp), (1, .ref lw)]) (st' := []) (ws' := [(wi, .inl (Y 0, 640, .inl fi2_2)), (tp, .inr (8, [.ref tb, .int tl, .ref lw, .int pl2_7, .int (0 : Int32)])), (tb, .inl (Y 0, 120, .inl fb)), (lw, .inr (4, [.ref ws_, .ref ww, .ref wt, .ref wn, .ref wg, .ref wi, .int lz2_8])), (ws_, .inl (Y 0, 128, .inl fs2_9)), (ww, .inl (Y 0, 128, .inl fw2_10))]) ?_ rfl rfl rfl rfl
    refine V_iconst (v := (0 : Int32)) X (by decide) dX9_readInto_26 ?_
    refine V_istore_n (ls' := [(2, .int (0 : Int32)), (0, .ref tp), (1, .ref lw)]) X (by decide) rfl dX9_readInto_27 ?_
    refine V_ls (ls' := [(0, .ref tp), (1, .ref lw), (2, .int (0 : Int32))]) [1, 2, 0] rfl ?_
    refine V_ws (ws' := [(tp, .inr (8, [.ref tb, .int tl, .ref lw, .int pl2_7, .int (0 : Int32)])), (tb, .inl (Y 0, 120, .inl fb)), (lw, .inr (4, [.ref ws_, .ref ww, .ref wt, .ref wn, .ref wg, .ref wi, .int lz2_8])), (ws_, .inl (Y 0, 128, .inl fs2_9)), (ww, .inl (Y 0, 128, .inl fw2_10)), (wi, .inl (Y 0, 640, .inl fi2_2))]) [1, 2, 3, 4, 5, 0] rfl rfl rfl ?_
    refine V_to (V_ind9 (fun (i2 : Int32) (i : Nat) (p3 : Int32) (q : Nat) (fa3 : Int32) (lz3 : Int32) (fs3 : Nat → Int32) (fw3 : Nat → Int32) (t3 : List Tok) => (i2.toInt = ((i : Nat) : Int)) ∧ (p3.toInt = ((q : Nat) : Int)) ∧ (i ≤ 120) ∧ (q ≤ L) ∧ (LC fs3 fw3 lz3 t3) ∧ ((fa3.toInt = 0 ∧ ∃ ls, t3 = codeT ls ∧ t3.length ≤ q + 1 ∧ pTx c (120 - i) q ls = pAll c) ∨ ((fa3.toInt ≠ 0 ∨ (48 ≤ c q ∧ c q ≤ 57)) ∧ pAll c = (q, none)))) (fun (i2 : Int32) (i : Nat) (p3 : Int32) (q : Nat) (fa3 : Int32) (lz3 : Int32) (fs3 : Nat → Int32) (fw3 : Nat → Int32) (t3 : List Tok) => 120 - i) (fun (i2 : Int32) (i : Nat) (p3 : Int32) (q : Nat) (fa3 : Int32) (lz3 : Int32) (fs3 : Nat → Int32) (fw3 : Nat → Int32) (t3 : List Tok) => [(0, .ref tp), (1, .ref lw), (2, .int i2)]) (fun (i2 : Int32) (i : Nat) (p3 : Int32) (q : Nat) (fa3 : Int32) (lz3 : Int32) (fs3 : Nat → Int32) (fw3 : Nat → Int32) (t3 : List Tok) => [(tp, .inr (8, [.ref tb, .int tl, .ref lw, .int p3, .int fa3])), (tb, .inl (Y 0, 120, .inl fb)), (lw, .inr (4, [.ref ws_, .ref ww, .ref wt, .ref wn, .ref wg, .ref wi, .int lz3])), (ws_, .inl (Y 0, 128, .inl fs3)), (ww, .inl (Y 0, 128, .inl fw3)), (wi, .inl (Y 0, 640, .inl fi2_2))]) (fun i2 i p3 q fa3 lz3 fs3 fw3 t3 hI_28 ih_28 => ?_) (0 : Int32) 0 pl2_7 q_f (0 : Int32) lz2_8 fs2_9 fw2_10 ([] ++ codeL ([] : List Tok).length x_f) ?_) rfl rfl rfl rfl
    · obtain ⟨ti2, tp3, hi, hqL3, hLC3, hLI⟩ := hI_28
      refine V_to (ls' := [(0, .ref tp), (1, .ref lw), (2, .int i2)]) (ws' := [(tp, .inr (8, [.ref tb, .int tl, .ref lw, .int p3, .int fa3])), (tb, .inl (Y 0, 120, .inl fb)), (lw, .inr (4, [.ref ws_, .ref ww, .ref wt, .ref wn, .ref wg, .ref wi, .int lz3])), (ws_, .inl (Y 0, 128, .inl fs3)), (ww, .inl (Y 0, 128, .inl fw3)), (wi, .inl (Y 0, 640, .inl fi2_2))]) ?_ rfl rfl rfl rfl
      refine V_iload_n X 2 rfl dX9_readInto_28 ?_
      refine V_bipush (v := (120 : Int32)) X (by decide) dX9_readInto_29 ?_
      refine V_icmp_ge X ti2 (show (120 : Int32).toInt = 120 from by decide) 63 dX9_readInto_31 (by decide) (fun c_31 => ?_) (fun c_31 => ?_)
      · rcases hLI with ⟨hf0, ls_w, ht3, hb3, hP3⟩ | hDD
        · refine V_aload_n X 0 rfl dX9_readInto_63 ?_
          refine V_get (C := RX9) (T := TX9) (N := 5) (ci := 8) (v := .int fa3) X in_X9_readInto_X9 0 rfl rfl 4 (by decide) (List.mem_of_getElem? (i := 3) rfl) rfl rfl dX9_readInto_64 ?_
          refine V_if_ne X rfl 81 dX9_readInto_67 (by decide) (fun c_67 => False.elim (by omega)) (fun c_67 => ?_)
          refine V_aload_n X 0 rfl dX9_readInto_70 ?_
          refine V_get (C := RX9) (T := TX9) (N := 5) (ci := 8) (v := .int p3) X in_X9_readInto_X9 0 rfl rfl 3 (by decide) (List.mem_of_getElem? (i := 2) rfl) rfl rfl dX9_readInto_71 ?_
          refine V_aload_n X 0 rfl dX9_readInto_74 ?_
          refine V_get (C := RX9) (T := TX9) (N := 5) (ci := 8) (v := .int tl) X in_X9_readInto_X9 0 rfl rfl 1 (by decide) (List.mem_of_getElem? (i := 4) rfl) rfl rfl dX9_readInto_75 ?_
          refine V_icmp_ge X tp3 ttl 88 dX9_readInto_78 (by decide) (fun c_78 => ?_) (fun c_78 => ?_)
          · refine V_iconst (v := (-1 : Int32)) X (by decide) dX9_readInto_88 ?_
            refine V_istore_n (ls' := [(2, .int (-1 : Int32)), (0, .ref tp), (1, .ref lw)]) X (by decide) rfl dX9_readInto_89 ?_
            refine V_aload_n X 1 rfl dX9_readInto_90 ?_
            refine V_iconst (v := (0 : Int32)) X (by decide) dX9_readInto_91 ?_
            refine V_put (C := RX9) (T := TX9) (N := 5) (ci := 8) (v := .int (0 : Int32)) (ty := tyX9 1) (ws' := [(tp, .inr (8, [.ref tb, .int (0 : Int32), .ref lw, .int p3, .int fa3])), (tb, .inl (Y 0, 120, .inl fb)), (lw, .inr (4, [.ref ws_, .ref ww, .ref wt, .ref wn, .ref wg, .ref wi, .int lz3])), (ws_, .inl (Y 0, 128, .inl fs3)), (ww, .inl (Y 0, 128, .inl fw3)), (wi, .inl (Y 0, 640, .inl fi2_2))]) X in_X9_readInto_X9 0 rfl rfl 1 (by decide) (List.mem_of_getElem? (i := 4) rfl) rfl tyX9 tyX9_ok nmX9 rfl (tyX9_ok 1 (by decide)) rfl rfl (Nat.le_of_ble_eq_true rfl) rfl dX9_readInto_92 ?_
            refine V_iload_n X 0 rfl dX9_readInto_95 ?_
            exact V_iret X hr dX9_readInto_96 (Or.inl ⟨ls_w, lz3, fs3, fw3, fi2_2, p3, fa3, rfl, rfl, (show _ from (by have h9 := (pTx_x hP3 (Or.inl (by omega))); rw [show q = L by omega] at h9; exact h9)), (ht3 ▸ hLC3), hhf_3⟩)
          · refine V_aload_n X 0 rfl dX9_readInto_81 ?_
            refine V_get (C := RX9) (T := TX9) (N := 5) (ci := 8) (v := .int p3) X in_X9_readInto_X9 0 rfl rfl 3 (by decide) (List.mem_of_getElem? (i := 2) rfl) rfl rfl dX9_readInto_82 ?_
            refine V_goto X 89 (by decide) dX9_readInto_85 ?_
            refine V_istore_n (ls' := [(2, .int p3), (0, .ref tp), (1, .ref lw)]) X (by decide) rfl dX9_readInto_89 ?_
            refine V_aload_n X 1 rfl dX9_readInto_90 ?_
            refine V_iconst (v := (0 : Int32)) X (by decide) dX9_readInto_91 ?_
            refine V_put (C := RX9) (T := TX9) (N := 5) (ci := 8) (v := .int (0 : Int32)) (ty := tyX9 1) (ws' := [(tp, .inr (8, [.ref tb, .int (0 : Int32), .ref lw, .int p3, .int fa3])), (tb, .inl (Y 0, 120, .inl fb)), (lw, .inr (4, [.ref ws_, .ref ww, .ref wt, .ref wn, .ref wg, .ref wi, .int lz3])), (ws_, .inl (Y 0, 128, .inl fs3)), (ww, .inl (Y 0, 128, .inl fw3)), (wi, .inl (Y 0, 640, .inl fi2_2))]) X in_X9_readInto_X9 0 rfl rfl 1 (by decide) (List.mem_of_getElem? (i := 4) rfl) rfl tyX9 tyX9_ok nmX9 rfl (tyX9_ok 1 (by decide)) rfl rfl (Nat.le_of_ble_eq_true rfl) rfl dX9_readInto_92 ?_
            refine V_iload_n X 0 rfl dX9_readInto_95 ?_
            exact V_iret X hr dX9_readInto_96 (Or.inr (⟨p3, q, lz3, fs3, fw3, fi2_2, p3, fa3, rfl, rfl, tp3, (Or.inr ⟨ls_w, (pTx_x hP3 (Or.inl (by omega))), by omega⟩), hqL3⟩))
        · refine V_aload_n X 0 rfl dX9_readInto_63 ?_
          refine V_get (C := RX9) (T := TX9) (N := 5) (ci := 8) (v := .int fa3) X in_X9_readInto_X9 0 rfl rfl 4 (by decide) (List.mem_of_getElem? (i := 3) rfl) rfl rfl dX9_readInto_64 ?_
          refine V_if_ne X rfl 81 dX9_readInto_67 (by decide) (fun c_67 => ?_) (fun c_67 => ?_)
          · refine V_aload_n X 0 rfl dX9_readInto_81 ?_
            refine V_get (C := RX9) (T := TX9) (N := 5) (ci := 8) (v := .int p3) X in_X9_readInto_X9 0 rfl rfl 3 (by decide) (List.mem_of_getElem? (i := 2) rfl) rfl rfl dX9_readInto_82 ?_
            refine V_goto X 89 (by decide) dX9_readInto_85 ?_
            refine V_istore_n (ls' := [(2, .int p3), (0, .ref tp), (1, .ref lw)]) X (by decide) rfl dX9_readInto_89 ?_
            refine V_aload_n X 1 rfl dX9_readInto_90 ?_
            refine V_iconst (v := (0 : Int32)) X (by decide) dX9_readInto_91 ?_
            refine V_put (C := RX9) (T := TX9) (N := 5) (ci := 8) (v := .int (0 : Int32)) (ty := tyX9 1) (ws' := [(tp, .inr (8, [.ref tb, .int (0 : Int32), .ref lw, .int p3, .int fa3])), (tb, .inl (Y 0, 120, .inl fb)), (lw, .inr (4, [.ref ws_, .ref ww, .ref wt, .ref wn, .ref wg, .ref wi, .int lz3])), (ws_, .inl (Y 0, 128, .inl fs3)), (ww, .inl (Y 0, 128, .inl fw3)), (wi, .inl (Y 0, 640, .inl fi2_2))]) X in_X9_readInto_X9 0 rfl rfl 1 (by decide) (List.mem_of_getElem? (i := 4) rfl) rfl tyX9 tyX9_ok nmX9 rfl (tyX9_ok 1 (by decide)) rfl rfl (Nat.le_of_ble_eq_true rfl) rfl dX9_readInto_92 ?_
            refine V_iload_n X 0 rfl dX9_readInto_95 ?_
            exact V_iret X hr dX9_readInto_96 (Or.inr (⟨p3, q, lz3, fs3, fw3, fi2_2, p3, fa3, rfl, rfl, tp3, (Or.inl hDD.2), hqL3⟩))
          · have hdg := hDD.1.resolve_left (by omega)
            have hqlt := CHR_lt hCH (show c q ≠ -1 by omega)
            refine V_aload_n X 0 rfl dX9_readInto_70 ?_
            refine V_get (C := RX9) (T := TX9) (N := 5) (ci := 8) (v := .int p3) X in_X9_readInto_X9 0 rfl rfl 3 (by decide) (List.mem_of_getElem? (i := 2) rfl) rfl rfl dX9_readInto_71 ?_
            refine V_aload_n X 0 rfl dX9_readInto_74 ?_
            refine V_get (C := RX9) (T := TX9) (N := 5) (ci := 8) (v := .int tl) X in_X9_readInto_X9 0 rfl rfl 1 (by decide) (List.mem_of_getElem? (i := 4) rfl) rfl rfl dX9_readInto_75 ?_
            refine V_icmp_ge X tp3 ttl 88 dX9_readInto_78 (by decide) (fun c_78 => False.elim (by omega)) (fun c_78 => ?_)
            refine V_aload_n X 0 rfl dX9_readInto_81 ?_
            refine V_get (C := RX9) (T := TX9) (N := 5) (ci := 8) (v := .int p3) X in_X9_readInto_X9 0 rfl rfl 3 (by decide) (List.mem_of_getElem? (i := 2) rfl) rfl rfl dX9_readInto_82 ?_
            refine V_goto X 89 (by decide) dX9_readInto_85 ?_
            refine V_istore_n (ls' := [(2, .int p3), (0, .ref tp), (1, .ref lw)]) X (by decide) rfl dX9_readInto_89 ?_
            refine V_aload_n X 1 rfl dX9_readInto_90 ?_
            refine V_iconst (v := (0 : Int32)) X (by decide) dX9_readInto_91 ?_
            refine V_put (C := RX9) (T := TX9) (N := 5) (ci := 8) (v := .int (0 : Int32)) (ty := tyX9 1) (ws' := [(tp, .inr (8, [.ref tb, .int (0 : Int32), .ref lw, .int p3, .int fa3])), (tb, .inl (Y 0, 120, .inl fb)), (lw, .inr (4, [.ref ws_, .ref ww, .ref wt, .ref wn, .ref wg, .ref wi, .int lz3])), (ws_, .inl (Y 0, 128, .inl fs3)), (ww, .inl (Y 0, 128, .inl fw3)), (wi, .inl (Y 0, 640, .inl fi2_2))]) X in_X9_readInto_X9 0 rfl rfl 1 (by decide) (List.mem_of_getElem? (i := 4) rfl) rfl tyX9 tyX9_ok nmX9 rfl (tyX9_ok 1 (by decide)) rfl rfl (Nat.le_of_ble_eq_true rfl) rfl dX9_readInto_92 ?_
            refine V_iload_n X 0 rfl dX9_readInto_95 ?_
            exact V_iret X hr dX9_readInto_96 (Or.inr (⟨p3, q, lz3, fs3, fw3, fi2_2, p3, fa3, rfl, rfl, tp3, (Or.inl hDD.2), hqL3⟩))
      · refine V_aload_n X 0 rfl dX9_readInto_34 ?_
        refine V_callV (C := RX9) (wr := [(lw, .inr (4, [.ref ws_, .ref ww, .ref wt, .ref wn, .ref wg, .ref wi, .int lz3])), (ws_, .inl (Y 0, 128, .inl fs3)), (ww, .inl (Y 0, 128, .inl fw3)), (wi, .inl (Y 0, 640, .inl fi2_2))]) (st := []) X (c_X9_peek l D Y tp tb lw tl p3 fa3 q L c fb ttl hL tp3 hqL3 hCH) 0 gX9_readInto_X9_peek rfl (by decide +kernel) ⟨rfl, rfl⟩ ⟨Nat.le_of_ble_eq_true rfl, Nat.le_of_ble_eq_true rfl⟩ [0, 1] [2, 3, 4, 5] rfl rfl rfl rfl (by decide) (ci := 8) rfl rfl 0 rfl rfl rfl (Nat.le_of_ble_eq_true rfl) ⟨Nat.le_of_ble_eq_true rfl, Nat.le_of_ble_eq_true rfl⟩ dX9_readInto_35 (fun v_35 w_35 h_35 => ?_)
        obtain ⟨r_28, rfl, rfl, hhpk_29, hhpv_30⟩ := h_35
        refine V_to (pc' := 38) (ls' := [(0, .ref tp), (1, .ref lw), (2, .int i2)]) (st' := [.int r_28]) (ws' := [(lw, .inr (4, [.ref ws_, .ref ww, .ref wt, .ref wn, .ref wg, .ref wi, .int lz3])), (ws_, .inl (Y 0, 128, .inl fs3)), (ww, .inl (Y 0, 128, .inl fw3)), (wi, .inl (Y 0, 640, .inl fi2_2)), (tp, .inr (8, [.ref tb, .int tl, .ref lw, .int p3, .int fa3])), (tb, .inl (Y 0, 120, .inl fb))]) ?_ rfl rfl rfl rfl
        refine V_bipush (v := (59 : Int32)) X (by decide) dX9_readInto_38 ?_
        refine V_icmp_ne X rfl (show (59 : Int32).toInt = 59 from by decide) 63 dX9_readInto_40 (by decide) (fun c_40 => ?_) (fun c_40 => ?_)
        · rcases hLI with ⟨hf0, ls_w, ht3, hb3, hP3⟩ | hDD
          · refine V_aload_n X 0 rfl dX9_readInto_63 ?_
            refine V_get (C := RX9) (T := TX9) (N := 5) (ci := 8) (v := .int fa3) X in_X9_readInto_X9 4 rfl rfl 4 (by decide) (List.mem_of_getElem? (i := 3) rfl) rfl rfl dX9_readInto_64 ?_
            refine V_if_ne X rfl 81 dX9_readInto_67 (by decide) (fun c_67 => False.elim (by omega)) (fun c_67 => ?_)
            refine V_aload_n X 0 rfl dX9_readInto_70 ?_
            refine V_get (C := RX9) (T := TX9) (N := 5) (ci := 8) (v := .int p3) X in_X9_readInto_X9 4 rfl rfl 3 (by decide) (List.mem_of_getElem? (i := 2) rfl) rfl rfl dX9_readInto_71 ?_
            refine V_aload_n X 0 rfl dX9_readInto_74 ?_
            refine V_get (C := RX9) (T := TX9) (N := 5) (ci := 8) (v := .int tl) X in_X9_readInto_X9 4 rfl rfl 1 (by decide) (List.mem_of_getElem? (i := 4) rfl) rfl rfl dX9_readInto_75 ?_
            refine V_icmp_ge X tp3 ttl 88 dX9_readInto_78 (by decide) (fun c_78 => ?_) (fun c_78 => ?_)
            · refine V_iconst (v := (-1 : Int32)) X (by decide) dX9_readInto_88 ?_
              refine V_istore_n (ls' := [(2, .int (-1 : Int32)), (0, .ref tp), (1, .ref lw)]) X (by decide) rfl dX9_readInto_89 ?_
              refine V_aload_n X 1 rfl dX9_readInto_90 ?_
              refine V_iconst (v := (0 : Int32)) X (by decide) dX9_readInto_91 ?_
              refine V_put (C := RX9) (T := TX9) (N := 5) (ci := 8) (v := .int (0 : Int32)) (ty := tyX9 1) (ws' := [(lw, .inr (4, [.ref ws_, .ref ww, .ref wt, .ref wn, .ref wg, .ref wi, .int lz3])), (ws_, .inl (Y 0, 128, .inl fs3)), (ww, .inl (Y 0, 128, .inl fw3)), (wi, .inl (Y 0, 640, .inl fi2_2)), (tp, .inr (8, [.ref tb, .int (0 : Int32), .ref lw, .int p3, .int fa3])), (tb, .inl (Y 0, 120, .inl fb))]) X in_X9_readInto_X9 4 rfl rfl 1 (by decide) (List.mem_of_getElem? (i := 4) rfl) rfl tyX9 tyX9_ok nmX9 rfl (tyX9_ok 1 (by decide)) rfl rfl (Nat.le_of_ble_eq_true rfl) rfl dX9_readInto_92 ?_
              refine V_iload_n X 0 rfl dX9_readInto_95 ?_
              refine V_ws (ws' := [(tp, .inr (8, [.ref tb, .int (0 : Int32), .ref lw, .int p3, .int fa3])), (tb, .inl (Y 0, 120, .inl fb)), (lw, .inr (4, [.ref ws_, .ref ww, .ref wt, .ref wn, .ref wg, .ref wi, .int lz3])), (ws_, .inl (Y 0, 128, .inl fs3)), (ww, .inl (Y 0, 128, .inl fw3)), (wi, .inl (Y 0, 640, .inl fi2_2))]) [4, 5, 0, 1, 2, 3] rfl rfl rfl ?_
              exact V_iret X hr dX9_readInto_96 (Or.inl ⟨ls_w, lz3, fs3, fw3, fi2_2, p3, fa3, rfl, rfl, (show _ from (by have h9 := (pTx_x hP3 (Or.inr (PK_ne (PK_0 hhpk_29 hf0) c_40 (by decide)))); rw [show q = L by omega] at h9; exact h9)), (ht3 ▸ hLC3), hhf_3⟩)
            · refine V_aload_n X 0 rfl dX9_readInto_81 ?_
              refine V_get (C := RX9) (T := TX9) (N := 5) (ci := 8) (v := .int p3) X in_X9_readInto_X9 4 rfl rfl 3 (by decide) (List.mem_of_getElem? (i := 2) rfl) rfl rfl dX9_readInto_82 ?_
              refine V_goto X 89 (by decide) dX9_readInto_85 ?_
              refine V_istore_n (ls' := [(2, .int p3), (0, .ref tp), (1, .ref lw)]) X (by decide) rfl dX9_readInto_89 ?_
              refine V_aload_n X 1 rfl dX9_readInto_90 ?_
              refine V_iconst (v := (0 : Int32)) X (by decide) dX9_readInto_91 ?_
              refine V_put (C := RX9) (T := TX9) (N := 5) (ci := 8) (v := .int (0 : Int32)) (ty := tyX9 1) (ws' := [(lw, .inr (4, [.ref ws_, .ref ww, .ref wt, .ref wn, .ref wg, .ref wi, .int lz3])), (ws_, .inl (Y 0, 128, .inl fs3)), (ww, .inl (Y 0, 128, .inl fw3)), (wi, .inl (Y 0, 640, .inl fi2_2)), (tp, .inr (8, [.ref tb, .int (0 : Int32), .ref lw, .int p3, .int fa3])), (tb, .inl (Y 0, 120, .inl fb))]) X in_X9_readInto_X9 4 rfl rfl 1 (by decide) (List.mem_of_getElem? (i := 4) rfl) rfl tyX9 tyX9_ok nmX9 rfl (tyX9_ok 1 (by decide)) rfl rfl (Nat.le_of_ble_eq_true rfl) rfl dX9_readInto_92 ?_
              refine V_iload_n X 0 rfl dX9_readInto_95 ?_
              refine V_ws (ws' := [(tp, .inr (8, [.ref tb, .int (0 : Int32), .ref lw, .int p3, .int fa3])), (tb, .inl (Y 0, 120, .inl fb)), (lw, .inr (4, [.ref ws_, .ref ww, .ref wt, .ref wn, .ref wg, .ref wi, .int lz3])), (ws_, .inl (Y 0, 128, .inl fs3)), (ww, .inl (Y 0, 128, .inl fw3)), (wi, .inl (Y 0, 640, .inl fi2_2))]) [4, 5, 0, 1, 2, 3] rfl rfl rfl ?_
              exact V_iret X hr dX9_readInto_96 (Or.inr (⟨p3, q, lz3, fs3, fw3, fi2_2, p3, fa3, rfl, rfl, tp3, (Or.inr ⟨ls_w, (pTx_x hP3 (Or.inr (PK_ne (PK_0 hhpk_29 hf0) c_40 (by decide)))), by omega⟩), hqL3⟩))
          · refine V_aload_n X 0 rfl dX9_readInto_63 ?_
            refine V_get (C := RX9) (T := TX9) (N := 5) (ci := 8) (v := .int fa3) X in_X9_readInto_X9 4 rfl rfl 4 (by decide) (List.mem_of_getElem? (i := 3) rfl) rfl rfl dX9_readInto_64 ?_
            refine V_if_ne X rfl 81 dX9_readInto_67 (by decide) (fun c_67 => ?_) (fun c_67 => ?_)
            · refine V_aload_n X 0 rfl dX9_readInto_81 ?_
              refine V_get (C := RX9) (T := TX9) (N := 5) (ci := 8) (v := .int p3) X in_X9_readInto_X9 4 rfl rfl 3 (by decide) (List.mem_of_getElem? (i := 2) rfl) rfl rfl dX9_readInto_82 ?_
              refine V_goto X 89 (by decide) dX9_readInto_85 ?_
              refine V_istore_n (ls' := [(2, .int p3), (0, .ref tp), (1, .ref lw)]) X (by decide) rfl dX9_readInto_89 ?_
              refine V_aload_n X 1 rfl dX9_readInto_90 ?_
              refine V_iconst (v := (0 : Int32)) X (by decide) dX9_readInto_91 ?_
              refine V_put (C := RX9) (T := TX9) (N := 5) (ci := 8) (v := .int (0 : Int32)) (ty := tyX9 1) (ws' := [(lw, .inr (4, [.ref ws_, .ref ww, .ref wt, .ref wn, .ref wg, .ref wi, .int lz3])), (ws_, .inl (Y 0, 128, .inl fs3)), (ww, .inl (Y 0, 128, .inl fw3)), (wi, .inl (Y 0, 640, .inl fi2_2)), (tp, .inr (8, [.ref tb, .int (0 : Int32), .ref lw, .int p3, .int fa3])), (tb, .inl (Y 0, 120, .inl fb))]) X in_X9_readInto_X9 4 rfl rfl 1 (by decide) (List.mem_of_getElem? (i := 4) rfl) rfl tyX9 tyX9_ok nmX9 rfl (tyX9_ok 1 (by decide)) rfl rfl (Nat.le_of_ble_eq_true rfl) rfl dX9_readInto_92 ?_
              refine V_iload_n X 0 rfl dX9_readInto_95 ?_
              refine V_ws (ws' := [(tp, .inr (8, [.ref tb, .int (0 : Int32), .ref lw, .int p3, .int fa3])), (tb, .inl (Y 0, 120, .inl fb)), (lw, .inr (4, [.ref ws_, .ref ww, .ref wt, .ref wn, .ref wg, .ref wi, .int lz3])), (ws_, .inl (Y 0, 128, .inl fs3)), (ww, .inl (Y 0, 128, .inl fw3)), (wi, .inl (Y 0, 640, .inl fi2_2))]) [4, 5, 0, 1, 2, 3] rfl rfl rfl ?_
              exact V_iret X hr dX9_readInto_96 (Or.inr (⟨p3, q, lz3, fs3, fw3, fi2_2, p3, fa3, rfl, rfl, tp3, (Or.inl hDD.2), hqL3⟩))
            · have hdg := hDD.1.resolve_left (by omega)
              have hqlt := CHR_lt hCH (show c q ≠ -1 by omega)
              refine V_aload_n X 0 rfl dX9_readInto_70 ?_
              refine V_get (C := RX9) (T := TX9) (N := 5) (ci := 8) (v := .int p3) X in_X9_readInto_X9 4 rfl rfl 3 (by decide) (List.mem_of_getElem? (i := 2) rfl) rfl rfl dX9_readInto_71 ?_
              refine V_aload_n X 0 rfl dX9_readInto_74 ?_
              refine V_get (C := RX9) (T := TX9) (N := 5) (ci := 8) (v := .int tl) X in_X9_readInto_X9 4 rfl rfl 1 (by decide) (List.mem_of_getElem? (i := 4) rfl) rfl rfl dX9_readInto_75 ?_
              refine V_icmp_ge X tp3 ttl 88 dX9_readInto_78 (by decide) (fun c_78 => False.elim (by omega)) (fun c_78 => ?_)
              refine V_aload_n X 0 rfl dX9_readInto_81 ?_
              refine V_get (C := RX9) (T := TX9) (N := 5) (ci := 8) (v := .int p3) X in_X9_readInto_X9 4 rfl rfl 3 (by decide) (List.mem_of_getElem? (i := 2) rfl) rfl rfl dX9_readInto_82 ?_
              refine V_goto X 89 (by decide) dX9_readInto_85 ?_
              refine V_istore_n (ls' := [(2, .int p3), (0, .ref tp), (1, .ref lw)]) X (by decide) rfl dX9_readInto_89 ?_
              refine V_aload_n X 1 rfl dX9_readInto_90 ?_
              refine V_iconst (v := (0 : Int32)) X (by decide) dX9_readInto_91 ?_
              refine V_put (C := RX9) (T := TX9) (N := 5) (ci := 8) (v := .int (0 : Int32)) (ty := tyX9 1) (ws' := [(lw, .inr (4, [.ref ws_, .ref ww, .ref wt, .ref wn, .ref wg, .ref wi, .int lz3])), (ws_, .inl (Y 0, 128, .inl fs3)), (ww, .inl (Y 0, 128, .inl fw3)), (wi, .inl (Y 0, 640, .inl fi2_2)), (tp, .inr (8, [.ref tb, .int (0 : Int32), .ref lw, .int p3, .int fa3])), (tb, .inl (Y 0, 120, .inl fb))]) X in_X9_readInto_X9 4 rfl rfl 1 (by decide) (List.mem_of_getElem? (i := 4) rfl) rfl tyX9 tyX9_ok nmX9 rfl (tyX9_ok 1 (by decide)) rfl rfl (Nat.le_of_ble_eq_true rfl) rfl dX9_readInto_92 ?_
              refine V_iload_n X 0 rfl dX9_readInto_95 ?_
              refine V_ws (ws' := [(tp, .inr (8, [.ref tb, .int (0 : Int32), .ref lw, .int p3, .int fa3])), (tb, .inl (Y 0, 120, .inl fb)), (lw, .inr (4, [.ref ws_, .ref ww, .ref wt, .ref wn, .ref wg, .ref wi, .int lz3])), (ws_, .inl (Y 0, 128, .inl fs3)), (ww, .inl (Y 0, 128, .inl fw3)), (wi, .inl (Y 0, 640, .inl fi2_2))]) [4, 5, 0, 1, 2, 3] rfl rfl rfl ?_
              exact V_iret X hr dX9_readInto_96 (Or.inr (⟨p3, q, lz3, fs3, fw3, fi2_2, p3, fa3, rfl, rfl, tp3, (Or.inl hDD.2), hqL3⟩))
        · have hpe := hhpk_29
          have hAL := hLI.resolve_right (fun hDD => (PK_m1 hpe hDD.1).2.1 (by omega))
          obtain ⟨h0a, ls_, ht3, hb3, hP3⟩ := hAL
          have h0a : fa3.toInt = 0 := h0a
          have hc59 : c q = 59 := PK_eq (PK_0 hpe h0a) (by omega) (by decide) (by decide)
          have hqlt := CHR_lt hCH (show c q ≠ -1 by omega)
          refine V_aload_n X 0 rfl dX9_readInto_43 ?_
          refine V_dup X rfl dX9_readInto_44 ?_
          refine V_get (C := RX9) (T := TX9) (N := 5) (ci := 8) (v := .int p3) X in_X9_readInto_X9 4 rfl rfl 3 (by decide) (List.mem_of_getElem? (i := 2) rfl) rfl rfl dX9_readInto_45 ?_
          refine V_iconst (v := (1 : Int32)) X (by decide) dX9_readInto_48 ?_
          refine V_iaddZ X tp3 (show (1 : Int32).toInt = 1 from by decide) (by omega) (by omega) dX9_readInto_49 (fun x_31 ex_31 tx_31 => ?_)
          have tx_31 : x_31.toInt = (((q + 1) : Nat) : Int) := by omega
          refine V_put (C := RX9) (T := TX9) (N := 5) (ci := 8) (v := .int x_31) (ty := tyX9 3) (ws' := [(lw, .inr (4, [.ref ws_, .ref ww, .ref wt, .ref wn, .ref wg, .ref wi, .int lz3])), (ws_, .inl (Y 0, 128, .inl fs3)), (ww, .inl (Y 0, 128, .inl fw3)), (wi, .inl (Y 0, 640, .inl fi2_2)), (tp, .inr (8, [.ref tb, .int tl, .ref lw, .int x_31, .int fa3])), (tb, .inl (Y 0, 120, .inl fb))]) X in_X9_readInto_X9 4 rfl rfl 3 (by decide) (List.mem_of_getElem? (i := 2) rfl) rfl tyX9 tyX9_ok nmX9 rfl (tyX9_ok 3 (by decide)) rfl rfl (Nat.le_of_ble_eq_true rfl) rfl dX9_readInto_50 ?_
          refine V_aload_n X 0 rfl dX9_readInto_53 ?_
          refine V_callV (C := RX9) (wr := [(wi, .inl (Y 0, 640, .inl fi2_2))]) (st := []) X (c_X9_readLine l D Y tp tb lw tl x_31 fa3 (q + 1) L c ws_ ww wt wn wg wi lz3 fs3 fw3 t3 fb ttl hL tx_31 (by omega) hCH hLC3 h0a hb3) 0 gX9_readInto_X9_readLine rfl (by decide +kernel) ⟨rfl, rfl⟩ ⟨Nat.le_of_ble_eq_true rfl, Nat.le_of_ble_eq_true rfl⟩ [4, 5, 0, 1, 2] [3] rfl rfl rfl rfl (by decide) (ci := 8) rfl rfl 0 rfl rfl rfl (Nat.le_of_ble_eq_true rfl) ⟨Nat.le_of_ble_eq_true rfl, Nat.le_of_ble_eq_true rfl⟩ dX9_readInto_54 (fun v_54 w_54 h_54 => ?_)
          rcases h_54 with ⟨q_g, x_g, pl2_35, lz2_36, fs2_37, fw2_38, rfl, rfl, tplg, hRg, hqbg, hLg⟩ | ⟨q_g, t1_g, pl2_45, fa2_46, lz2_47, fs2_48, fw2_49, rfl, rfl, tplg, hRg, hqLg, hDg, hLg⟩
          · refine V_to (pc' := 57) (ls' := [(0, .ref tp), (1, .ref lw), (2, .int i2)]) (st' := []) (ws' := [(wi, .inl (Y 0, 640, .inl fi2_2)), (tp, .inr (8, [.ref tb, .int tl, .ref lw, .int pl2_35, .int fa3])), (tb, .inl (Y 0, 120, .inl fb)), (lw, .inr (4, [.ref ws_, .ref ww, .ref wt, .ref wn, .ref wg, .ref wi, .int lz2_36])), (ws_, .inl (Y 0, 128, .inl fs2_37)), (ww, .inl (Y 0, 128, .inl fw2_38))]) ?_ rfl rfl rfl rfl
            refine V_iincZ X (fun vv_ => [(2, .int vv_), (0, .ref tp), (1, .ref lw)]) ti2 (by omega) (by omega) (by decide) 2 rfl (by decide) (fun _ => rfl) dX9_readInto_57 (fun x_55 ex_55 tx_55 => ?_)
            have tx_55 : x_55.toInt = (((i + 1) : Nat) : Int) := by omega
            refine V_goto X 28 (by decide) dX9_readInto_60 ?_
            refine V_ls (ls' := [(0, .ref tp), (1, .ref lw), (2, .int x_55)]) [1, 2, 0] rfl ?_
            refine V_ws (ws' := [(tp, .inr (8, [.ref tb, .int tl, .ref lw, .int pl2_35, .int fa3])), (tb, .inl (Y 0, 120, .inl fb)), (lw, .inr (4, [.ref ws_, .ref ww, .ref wt, .ref wn, .ref wg, .ref wi, .int lz2_36])), (ws_, .inl (Y 0, 128, .inl fs2_37)), (ww, .inl (Y 0, 128, .inl fw2_38)), (wi, .inl (Y 0, 640, .inl fi2_2))]) [1, 2, 3, 4, 5, 0] rfl rfl rfl ?_
            exact V_to (ih_28 x_55 (i + 1) pl2_35 q_g fa3 lz2_36 fs2_37 fw2_38 (t3 ++ codeL t3.length x_g) ⟨(by omega), tplg, (by omega), hqbg.2.1, hLg, (Or.inl ⟨h0a, ls_ ++ [x_g], by rw [codeT_s, ht3], hqbg.2.2, (by rw [show 120 - (i + 1) = 120 - i - 1 by omega]; exact pTx_y hP3 (by omega) hc59 hRg)⟩)⟩ (by omega)) rfl rfl rfl rfl
          · refine V_to (pc' := 57) (ls' := [(0, .ref tp), (1, .ref lw), (2, .int i2)]) (st' := []) (ws' := [(wi, .inl (Y 0, 640, .inl fi2_2)), (tp, .inr (8, [.ref tb, .int tl, .ref lw, .int pl2_45, .int fa2_46])), (tb, .inl (Y 0, 120, .inl fb)), (lw, .inr (4, [.ref ws_, .ref ww, .ref wt, .ref wn, .ref wg, .ref wi, .int lz2_47])), (ws_, .inl (Y 0, 128, .inl fs2_48)), (ww, .inl (Y 0, 128, .inl fw2_49))]) ?_ rfl rfl rfl rfl
            refine V_iincZ X (fun vv_ => [(2, .int vv_), (0, .ref tp), (1, .ref lw)]) ti2 (by omega) (by omega) (by decide) 2 rfl (by decide) (fun _ => rfl) dX9_readInto_57 (fun x_56 ex_56 tx_56 => ?_)
            have tx_56 : x_56.toInt = (((i + 1) : Nat) : Int) := by omega
            refine V_goto X 28 (by decide) dX9_readInto_60 ?_
            refine V_ls (ls' := [(0, .ref tp), (1, .ref lw), (2, .int x_56)]) [1, 2, 0] rfl ?_
            refine V_ws (ws' := [(tp, .inr (8, [.ref tb, .int tl, .ref lw, .int pl2_45, .int fa2_46])), (tb, .inl (Y 0, 120, .inl fb)), (lw, .inr (4, [.ref ws_, .ref ww, .ref wt, .ref wn, .ref wg, .ref wi, .int lz2_47])), (ws_, .inl (Y 0, 128, .inl fs2_48)), (ww, .inl (Y 0, 128, .inl fw2_49)), (wi, .inl (Y 0, 640, .inl fi2_2))]) [1, 2, 3, 4, 5, 0] rfl rfl rfl ?_
            exact V_to (ih_28 x_56 (i + 1) pl2_45 q_g fa2_46 lz2_47 fs2_48 fw2_49 t1_g ⟨(by omega), tplg, (by omega), hqLg, hLg, (Or.inr ⟨hDg, pTx_n hP3 (by omega) hc59 hRg⟩)⟩ (by omega)) rfl rfl rfl rfl
    · exact ⟨(by have h9 : (0 : Int32).toInt = 0 := (show (0 : Int32).toInt = 0 from by decide); omega), tplf, (by omega), hqbf.2.1, hLf, (Or.inl ⟨by decide, [x_f], rfl, hqbf.2.2, (pAll_s hRf).symm⟩)⟩
  · refine V_to (pc' := 26) (ls' := [(0, .ref tp), (1, .ref lw)]) (st' := []) (ws' := [(wi, .inl (Y 0, 640, .inl fi2_2)), (tp, .inr (8, [.ref tb, .int tl, .ref lw, .int pl2_17, .int fa2_18])), (tb, .inl (Y 0, 120, .inl fb)), (lw, .inr (4, [.ref ws_, .ref ww, .ref wt, .ref wn, .ref wg, .ref wi, .int lz2_19])), (ws_, .inl (Y 0, 128, .inl fs2_20)), (ww, .inl (Y 0, 128, .inl fw2_21))]) ?_ rfl rfl rfl rfl
    refine V_iconst (v := (0 : Int32)) X (by decide) dX9_readInto_26 ?_
    refine V_istore_n (ls' := [(2, .int (0 : Int32)), (0, .ref tp), (1, .ref lw)]) X (by decide) rfl dX9_readInto_27 ?_
    refine V_ls (ls' := [(0, .ref tp), (1, .ref lw), (2, .int (0 : Int32))]) [1, 2, 0] rfl ?_
    refine V_ws (ws' := [(tp, .inr (8, [.ref tb, .int tl, .ref lw, .int pl2_17, .int fa2_18])), (tb, .inl (Y 0, 120, .inl fb)), (lw, .inr (4, [.ref ws_, .ref ww, .ref wt, .ref wn, .ref wg, .ref wi, .int lz2_19])), (ws_, .inl (Y 0, 128, .inl fs2_20)), (ww, .inl (Y 0, 128, .inl fw2_21)), (wi, .inl (Y 0, 640, .inl fi2_2))]) [1, 2, 3, 4, 5, 0] rfl rfl rfl ?_
    refine V_to (V_ind9 (fun (i2 : Int32) (i : Nat) (p3 : Int32) (q : Nat) (fa3 : Int32) (lz3 : Int32) (fs3 : Nat → Int32) (fw3 : Nat → Int32) (t3 : List Tok) => (i2.toInt = ((i : Nat) : Int)) ∧ (p3.toInt = ((q : Nat) : Int)) ∧ (i ≤ 120) ∧ (q ≤ L) ∧ (LC fs3 fw3 lz3 t3) ∧ ((fa3.toInt = 0 ∧ ∃ ls, t3 = codeT ls ∧ t3.length ≤ q + 1 ∧ pTx c (120 - i) q ls = pAll c) ∨ ((fa3.toInt ≠ 0 ∨ (48 ≤ c q ∧ c q ≤ 57)) ∧ pAll c = (q, none)))) (fun (i2 : Int32) (i : Nat) (p3 : Int32) (q : Nat) (fa3 : Int32) (lz3 : Int32) (fs3 : Nat → Int32) (fw3 : Nat → Int32) (t3 : List Tok) => 120 - i) (fun (i2 : Int32) (i : Nat) (p3 : Int32) (q : Nat) (fa3 : Int32) (lz3 : Int32) (fs3 : Nat → Int32) (fw3 : Nat → Int32) (t3 : List Tok) => [(0, .ref tp), (1, .ref lw), (2, .int i2)]) (fun (i2 : Int32) (i : Nat) (p3 : Int32) (q : Nat) (fa3 : Int32) (lz3 : Int32) (fs3 : Nat → Int32) (fw3 : Nat → Int32) (t3 : List Tok) => [(tp, .inr (8, [.ref tb, .int tl, .ref lw, .int p3, .int fa3])), (tb, .inl (Y 0, 120, .inl fb)), (lw, .inr (4, [.ref ws_, .ref ww, .ref wt, .ref wn, .ref wg, .ref wi, .int lz3])), (ws_, .inl (Y 0, 128, .inl fs3)), (ww, .inl (Y 0, 128, .inl fw3)), (wi, .inl (Y 0, 640, .inl fi2_2))]) (fun i2 i p3 q fa3 lz3 fs3 fw3 t3 hI_28 ih_28 => ?_) (0 : Int32) 0 pl2_17 q_f fa2_18 lz2_19 fs2_20 fw2_21 t1_f ?_) rfl rfl rfl rfl
    · obtain ⟨ti2, tp3, hi, hqL3, hLC3, hLI⟩ := hI_28
      refine V_to (ls' := [(0, .ref tp), (1, .ref lw), (2, .int i2)]) (ws' := [(tp, .inr (8, [.ref tb, .int tl, .ref lw, .int p3, .int fa3])), (tb, .inl (Y 0, 120, .inl fb)), (lw, .inr (4, [.ref ws_, .ref ww, .ref wt, .ref wn, .ref wg, .ref wi, .int lz3])), (ws_, .inl (Y 0, 128, .inl fs3)), (ww, .inl (Y 0, 128, .inl fw3)), (wi, .inl (Y 0, 640, .inl fi2_2))]) ?_ rfl rfl rfl rfl
      refine V_iload_n X 2 rfl dX9_readInto_28 ?_
      refine V_bipush (v := (120 : Int32)) X (by decide) dX9_readInto_29 ?_
      refine V_icmp_ge X ti2 (show (120 : Int32).toInt = 120 from by decide) 63 dX9_readInto_31 (by decide) (fun c_31 => ?_) (fun c_31 => ?_)
      · rcases hLI with ⟨hf0, ls_w, ht3, hb3, hP3⟩ | hDD
        · refine V_aload_n X 0 rfl dX9_readInto_63 ?_
          refine V_get (C := RX9) (T := TX9) (N := 5) (ci := 8) (v := .int fa3) X in_X9_readInto_X9 0 rfl rfl 4 (by decide) (List.mem_of_getElem? (i := 3) rfl) rfl rfl dX9_readInto_64 ?_
          refine V_if_ne X rfl 81 dX9_readInto_67 (by decide) (fun c_67 => False.elim (by omega)) (fun c_67 => ?_)
          refine V_aload_n X 0 rfl dX9_readInto_70 ?_
          refine V_get (C := RX9) (T := TX9) (N := 5) (ci := 8) (v := .int p3) X in_X9_readInto_X9 0 rfl rfl 3 (by decide) (List.mem_of_getElem? (i := 2) rfl) rfl rfl dX9_readInto_71 ?_
          refine V_aload_n X 0 rfl dX9_readInto_74 ?_
          refine V_get (C := RX9) (T := TX9) (N := 5) (ci := 8) (v := .int tl) X in_X9_readInto_X9 0 rfl rfl 1 (by decide) (List.mem_of_getElem? (i := 4) rfl) rfl rfl dX9_readInto_75 ?_
          refine V_icmp_ge X tp3 ttl 88 dX9_readInto_78 (by decide) (fun c_78 => ?_) (fun c_78 => ?_)
          · refine V_iconst (v := (-1 : Int32)) X (by decide) dX9_readInto_88 ?_
            refine V_istore_n (ls' := [(2, .int (-1 : Int32)), (0, .ref tp), (1, .ref lw)]) X (by decide) rfl dX9_readInto_89 ?_
            refine V_aload_n X 1 rfl dX9_readInto_90 ?_
            refine V_iconst (v := (0 : Int32)) X (by decide) dX9_readInto_91 ?_
            refine V_put (C := RX9) (T := TX9) (N := 5) (ci := 8) (v := .int (0 : Int32)) (ty := tyX9 1) (ws' := [(tp, .inr (8, [.ref tb, .int (0 : Int32), .ref lw, .int p3, .int fa3])), (tb, .inl (Y 0, 120, .inl fb)), (lw, .inr (4, [.ref ws_, .ref ww, .ref wt, .ref wn, .ref wg, .ref wi, .int lz3])), (ws_, .inl (Y 0, 128, .inl fs3)), (ww, .inl (Y 0, 128, .inl fw3)), (wi, .inl (Y 0, 640, .inl fi2_2))]) X in_X9_readInto_X9 0 rfl rfl 1 (by decide) (List.mem_of_getElem? (i := 4) rfl) rfl tyX9 tyX9_ok nmX9 rfl (tyX9_ok 1 (by decide)) rfl rfl (Nat.le_of_ble_eq_true rfl) rfl dX9_readInto_92 ?_
            refine V_iload_n X 0 rfl dX9_readInto_95 ?_
            exact V_iret X hr dX9_readInto_96 (Or.inl ⟨ls_w, lz3, fs3, fw3, fi2_2, p3, fa3, rfl, rfl, (show _ from (by have h9 := (pTx_x hP3 (Or.inl (by omega))); rw [show q = L by omega] at h9; exact h9)), (ht3 ▸ hLC3), hhf_3⟩)
          · refine V_aload_n X 0 rfl dX9_readInto_81 ?_
            refine V_get (C := RX9) (T := TX9) (N := 5) (ci := 8) (v := .int p3) X in_X9_readInto_X9 0 rfl rfl 3 (by decide) (List.mem_of_getElem? (i := 2) rfl) rfl rfl dX9_readInto_82 ?_
            refine V_goto X 89 (by decide) dX9_readInto_85 ?_
            refine V_istore_n (ls' := [(2, .int p3), (0, .ref tp), (1, .ref lw)]) X (by decide) rfl dX9_readInto_89 ?_
            refine V_aload_n X 1 rfl dX9_readInto_90 ?_
            refine V_iconst (v := (0 : Int32)) X (by decide) dX9_readInto_91 ?_
            refine V_put (C := RX9) (T := TX9) (N := 5) (ci := 8) (v := .int (0 : Int32)) (ty := tyX9 1) (ws' := [(tp, .inr (8, [.ref tb, .int (0 : Int32), .ref lw, .int p3, .int fa3])), (tb, .inl (Y 0, 120, .inl fb)), (lw, .inr (4, [.ref ws_, .ref ww, .ref wt, .ref wn, .ref wg, .ref wi, .int lz3])), (ws_, .inl (Y 0, 128, .inl fs3)), (ww, .inl (Y 0, 128, .inl fw3)), (wi, .inl (Y 0, 640, .inl fi2_2))]) X in_X9_readInto_X9 0 rfl rfl 1 (by decide) (List.mem_of_getElem? (i := 4) rfl) rfl tyX9 tyX9_ok nmX9 rfl (tyX9_ok 1 (by decide)) rfl rfl (Nat.le_of_ble_eq_true rfl) rfl dX9_readInto_92 ?_
            refine V_iload_n X 0 rfl dX9_readInto_95 ?_
            exact V_iret X hr dX9_readInto_96 (Or.inr (⟨p3, q, lz3, fs3, fw3, fi2_2, p3, fa3, rfl, rfl, tp3, (Or.inr ⟨ls_w, (pTx_x hP3 (Or.inl (by omega))), by omega⟩), hqL3⟩))
        · refine V_aload_n X 0 rfl dX9_readInto_63 ?_
          refine V_get (C := RX9) (T := TX9) (N := 5) (ci := 8) (v := .int fa3) X in_X9_readInto_X9 0 rfl rfl 4 (by decide) (List.mem_of_getElem? (i := 3) rfl) rfl rfl dX9_readInto_64 ?_
          refine V_if_ne X rfl 81 dX9_readInto_67 (by decide) (fun c_67 => ?_) (fun c_67 => ?_)
          · refine V_aload_n X 0 rfl dX9_readInto_81 ?_
            refine V_get (C := RX9) (T := TX9) (N := 5) (ci := 8) (v := .int p3) X in_X9_readInto_X9 0 rfl rfl 3 (by decide) (List.mem_of_getElem? (i := 2) rfl) rfl rfl dX9_readInto_82 ?_
            refine V_goto X 89 (by decide) dX9_readInto_85 ?_
            refine V_istore_n (ls' := [(2, .int p3), (0, .ref tp), (1, .ref lw)]) X (by decide) rfl dX9_readInto_89 ?_
            refine V_aload_n X 1 rfl dX9_readInto_90 ?_
            refine V_iconst (v := (0 : Int32)) X (by decide) dX9_readInto_91 ?_
            refine V_put (C := RX9) (T := TX9) (N := 5) (ci := 8) (v := .int (0 : Int32)) (ty := tyX9 1) (ws' := [(tp, .inr (8, [.ref tb, .int (0 : Int32), .ref lw, .int p3, .int fa3])), (tb, .inl (Y 0, 120, .inl fb)), (lw, .inr (4, [.ref ws_, .ref ww, .ref wt, .ref wn, .ref wg, .ref wi, .int lz3])), (ws_, .inl (Y 0, 128, .inl fs3)), (ww, .inl (Y 0, 128, .inl fw3)), (wi, .inl (Y 0, 640, .inl fi2_2))]) X in_X9_readInto_X9 0 rfl rfl 1 (by decide) (List.mem_of_getElem? (i := 4) rfl) rfl tyX9 tyX9_ok nmX9 rfl (tyX9_ok 1 (by decide)) rfl rfl (Nat.le_of_ble_eq_true rfl) rfl dX9_readInto_92 ?_
            refine V_iload_n X 0 rfl dX9_readInto_95 ?_
            exact V_iret X hr dX9_readInto_96 (Or.inr (⟨p3, q, lz3, fs3, fw3, fi2_2, p3, fa3, rfl, rfl, tp3, (Or.inl hDD.2), hqL3⟩))
          · have hdg := hDD.1.resolve_left (by omega)
            have hqlt := CHR_lt hCH (show c q ≠ -1 by omega)
            refine V_aload_n X 0 rfl dX9_readInto_70 ?_
            refine V_get (C := RX9) (T := TX9) (N := 5) (ci := 8) (v := .int p3) X in_X9_readInto_X9 0 rfl rfl 3 (by decide) (List.mem_of_getElem? (i := 2) rfl) rfl rfl dX9_readInto_71 ?_
            refine V_aload_n X 0 rfl dX9_readInto_74 ?_
            refine V_get (C := RX9) (T := TX9) (N := 5) (ci := 8) (v := .int tl) X in_X9_readInto_X9 0 rfl rfl 1 (by decide) (List.mem_of_getElem? (i := 4) rfl) rfl rfl dX9_readInto_75 ?_
            refine V_icmp_ge X tp3 ttl 88 dX9_readInto_78 (by decide) (fun c_78 => False.elim (by omega)) (fun c_78 => ?_)
            refine V_aload_n X 0 rfl dX9_readInto_81 ?_
            refine V_get (C := RX9) (T := TX9) (N := 5) (ci := 8) (v := .int p3) X in_X9_readInto_X9 0 rfl rfl 3 (by decide) (List.mem_of_getElem? (i := 2) rfl) rfl rfl dX9_readInto_82 ?_
            refine V_goto X 89 (by decide) dX9_readInto_85 ?_
            refine V_istore_n (ls' := [(2, .int p3), (0, .ref tp), (1, .ref lw)]) X (by decide) rfl dX9_readInto_89 ?_
            refine V_aload_n X 1 rfl dX9_readInto_90 ?_
            refine V_iconst (v := (0 : Int32)) X (by decide) dX9_readInto_91 ?_
            refine V_put (C := RX9) (T := TX9) (N := 5) (ci := 8) (v := .int (0 : Int32)) (ty := tyX9 1) (ws' := [(tp, .inr (8, [.ref tb, .int (0 : Int32), .ref lw, .int p3, .int fa3])), (tb, .inl (Y 0, 120, .inl fb)), (lw, .inr (4, [.ref ws_, .ref ww, .ref wt, .ref wn, .ref wg, .ref wi, .int lz3])), (ws_, .inl (Y 0, 128, .inl fs3)), (ww, .inl (Y 0, 128, .inl fw3)), (wi, .inl (Y 0, 640, .inl fi2_2))]) X in_X9_readInto_X9 0 rfl rfl 1 (by decide) (List.mem_of_getElem? (i := 4) rfl) rfl tyX9 tyX9_ok nmX9 rfl (tyX9_ok 1 (by decide)) rfl rfl (Nat.le_of_ble_eq_true rfl) rfl dX9_readInto_92 ?_
            refine V_iload_n X 0 rfl dX9_readInto_95 ?_
            exact V_iret X hr dX9_readInto_96 (Or.inr (⟨p3, q, lz3, fs3, fw3, fi2_2, p3, fa3, rfl, rfl, tp3, (Or.inl hDD.2), hqL3⟩))
      · refine V_aload_n X 0 rfl dX9_readInto_34 ?_
        refine V_callV (C := RX9) (wr := [(lw, .inr (4, [.ref ws_, .ref ww, .ref wt, .ref wn, .ref wg, .ref wi, .int lz3])), (ws_, .inl (Y 0, 128, .inl fs3)), (ww, .inl (Y 0, 128, .inl fw3)), (wi, .inl (Y 0, 640, .inl fi2_2))]) (st := []) X (c_X9_peek l D Y tp tb lw tl p3 fa3 q L c fb ttl hL tp3 hqL3 hCH) 0 gX9_readInto_X9_peek rfl (by decide +kernel) ⟨rfl, rfl⟩ ⟨Nat.le_of_ble_eq_true rfl, Nat.le_of_ble_eq_true rfl⟩ [0, 1] [2, 3, 4, 5] rfl rfl rfl rfl (by decide) (ci := 8) rfl rfl 0 rfl rfl rfl (Nat.le_of_ble_eq_true rfl) ⟨Nat.le_of_ble_eq_true rfl, Nat.le_of_ble_eq_true rfl⟩ dX9_readInto_35 (fun v_35 w_35 h_35 => ?_)
        obtain ⟨r_58, rfl, rfl, hhpk_59, hhpv_60⟩ := h_35
        refine V_to (pc' := 38) (ls' := [(0, .ref tp), (1, .ref lw), (2, .int i2)]) (st' := [.int r_58]) (ws' := [(lw, .inr (4, [.ref ws_, .ref ww, .ref wt, .ref wn, .ref wg, .ref wi, .int lz3])), (ws_, .inl (Y 0, 128, .inl fs3)), (ww, .inl (Y 0, 128, .inl fw3)), (wi, .inl (Y 0, 640, .inl fi2_2)), (tp, .inr (8, [.ref tb, .int tl, .ref lw, .int p3, .int fa3])), (tb, .inl (Y 0, 120, .inl fb))]) ?_ rfl rfl rfl rfl
        refine V_bipush (v := (59 : Int32)) X (by decide) dX9_readInto_38 ?_
        refine V_icmp_ne X rfl (show (59 : Int32).toInt = 59 from by decide) 63 dX9_readInto_40 (by decide) (fun c_40 => ?_) (fun c_40 => ?_)
        · rcases hLI with ⟨hf0, ls_w, ht3, hb3, hP3⟩ | hDD
          · refine V_aload_n X 0 rfl dX9_readInto_63 ?_
            refine V_get (C := RX9) (T := TX9) (N := 5) (ci := 8) (v := .int fa3) X in_X9_readInto_X9 4 rfl rfl 4 (by decide) (List.mem_of_getElem? (i := 3) rfl) rfl rfl dX9_readInto_64 ?_
            refine V_if_ne X rfl 81 dX9_readInto_67 (by decide) (fun c_67 => False.elim (by omega)) (fun c_67 => ?_)
            refine V_aload_n X 0 rfl dX9_readInto_70 ?_
            refine V_get (C := RX9) (T := TX9) (N := 5) (ci := 8) (v := .int p3) X in_X9_readInto_X9 4 rfl rfl 3 (by decide) (List.mem_of_getElem? (i := 2) rfl) rfl rfl dX9_readInto_71 ?_
            refine V_aload_n X 0 rfl dX9_readInto_74 ?_
            refine V_get (C := RX9) (T := TX9) (N := 5) (ci := 8) (v := .int tl) X in_X9_readInto_X9 4 rfl rfl 1 (by decide) (List.mem_of_getElem? (i := 4) rfl) rfl rfl dX9_readInto_75 ?_
            refine V_icmp_ge X tp3 ttl 88 dX9_readInto_78 (by decide) (fun c_78 => ?_) (fun c_78 => ?_)
            · refine V_iconst (v := (-1 : Int32)) X (by decide) dX9_readInto_88 ?_
              refine V_istore_n (ls' := [(2, .int (-1 : Int32)), (0, .ref tp), (1, .ref lw)]) X (by decide) rfl dX9_readInto_89 ?_
              refine V_aload_n X 1 rfl dX9_readInto_90 ?_
              refine V_iconst (v := (0 : Int32)) X (by decide) dX9_readInto_91 ?_
              refine V_put (C := RX9) (T := TX9) (N := 5) (ci := 8) (v := .int (0 : Int32)) (ty := tyX9 1) (ws' := [(lw, .inr (4, [.ref ws_, .ref ww, .ref wt, .ref wn, .ref wg, .ref wi, .int lz3])), (ws_, .inl (Y 0, 128, .inl fs3)), (ww, .inl (Y 0, 128, .inl fw3)), (wi, .inl (Y 0, 640, .inl fi2_2)), (tp, .inr (8, [.ref tb, .int (0 : Int32), .ref lw, .int p3, .int fa3])), (tb, .inl (Y 0, 120, .inl fb))]) X in_X9_readInto_X9 4 rfl rfl 1 (by decide) (List.mem_of_getElem? (i := 4) rfl) rfl tyX9 tyX9_ok nmX9 rfl (tyX9_ok 1 (by decide)) rfl rfl (Nat.le_of_ble_eq_true rfl) rfl dX9_readInto_92 ?_
              refine V_iload_n X 0 rfl dX9_readInto_95 ?_
              refine V_ws (ws' := [(tp, .inr (8, [.ref tb, .int (0 : Int32), .ref lw, .int p3, .int fa3])), (tb, .inl (Y 0, 120, .inl fb)), (lw, .inr (4, [.ref ws_, .ref ww, .ref wt, .ref wn, .ref wg, .ref wi, .int lz3])), (ws_, .inl (Y 0, 128, .inl fs3)), (ww, .inl (Y 0, 128, .inl fw3)), (wi, .inl (Y 0, 640, .inl fi2_2))]) [4, 5, 0, 1, 2, 3] rfl rfl rfl ?_
              exact V_iret X hr dX9_readInto_96 (Or.inl ⟨ls_w, lz3, fs3, fw3, fi2_2, p3, fa3, rfl, rfl, (show _ from (by have h9 := (pTx_x hP3 (Or.inr (PK_ne (PK_0 hhpk_59 hf0) c_40 (by decide)))); rw [show q = L by omega] at h9; exact h9)), (ht3 ▸ hLC3), hhf_3⟩)
            · refine V_aload_n X 0 rfl dX9_readInto_81 ?_
              refine V_get (C := RX9) (T := TX9) (N := 5) (ci := 8) (v := .int p3) X in_X9_readInto_X9 4 rfl rfl 3 (by decide) (List.mem_of_getElem? (i := 2) rfl) rfl rfl dX9_readInto_82 ?_
              refine V_goto X 89 (by decide) dX9_readInto_85 ?_
              refine V_istore_n (ls' := [(2, .int p3), (0, .ref tp), (1, .ref lw)]) X (by decide) rfl dX9_readInto_89 ?_
              refine V_aload_n X 1 rfl dX9_readInto_90 ?_
              refine V_iconst (v := (0 : Int32)) X (by decide) dX9_readInto_91 ?_
              refine V_put (C := RX9) (T := TX9) (N := 5) (ci := 8) (v := .int (0 : Int32)) (ty := tyX9 1) (ws' := [(lw, .inr (4, [.ref ws_, .ref ww, .ref wt, .ref wn, .ref wg, .ref wi, .int lz3])), (ws_, .inl (Y 0, 128, .inl fs3)), (ww, .inl (Y 0, 128, .inl fw3)), (wi, .inl (Y 0, 640, .inl fi2_2)), (tp, .inr (8, [.ref tb, .int (0 : Int32), .ref lw, .int p3, .int fa3])), (tb, .inl (Y 0, 120, .inl fb))]) X in_X9_readInto_X9 4 rfl rfl 1 (by decide) (List.mem_of_getElem? (i := 4) rfl) rfl tyX9 tyX9_ok nmX9 rfl (tyX9_ok 1 (by decide)) rfl rfl (Nat.le_of_ble_eq_true rfl) rfl dX9_readInto_92 ?_
              refine V_iload_n X 0 rfl dX9_readInto_95 ?_
              refine V_ws (ws' := [(tp, .inr (8, [.ref tb, .int (0 : Int32), .ref lw, .int p3, .int fa3])), (tb, .inl (Y 0, 120, .inl fb)), (lw, .inr (4, [.ref ws_, .ref ww, .ref wt, .ref wn, .ref wg, .ref wi, .int lz3])), (ws_, .inl (Y 0, 128, .inl fs3)), (ww, .inl (Y 0, 128, .inl fw3)), (wi, .inl (Y 0, 640, .inl fi2_2))]) [4, 5, 0, 1, 2, 3] rfl rfl rfl ?_
              exact V_iret X hr dX9_readInto_96 (Or.inr (⟨p3, q, lz3, fs3, fw3, fi2_2, p3, fa3, rfl, rfl, tp3, (Or.inr ⟨ls_w, (pTx_x hP3 (Or.inr (PK_ne (PK_0 hhpk_59 hf0) c_40 (by decide)))), by omega⟩), hqL3⟩))
          · refine V_aload_n X 0 rfl dX9_readInto_63 ?_
            refine V_get (C := RX9) (T := TX9) (N := 5) (ci := 8) (v := .int fa3) X in_X9_readInto_X9 4 rfl rfl 4 (by decide) (List.mem_of_getElem? (i := 3) rfl) rfl rfl dX9_readInto_64 ?_
            refine V_if_ne X rfl 81 dX9_readInto_67 (by decide) (fun c_67 => ?_) (fun c_67 => ?_)
            · refine V_aload_n X 0 rfl dX9_readInto_81 ?_
              refine V_get (C := RX9) (T := TX9) (N := 5) (ci := 8) (v := .int p3) X in_X9_readInto_X9 4 rfl rfl 3 (by decide) (List.mem_of_getElem? (i := 2) rfl) rfl rfl dX9_readInto_82 ?_
              refine V_goto X 89 (by decide) dX9_readInto_85 ?_
              refine V_istore_n (ls' := [(2, .int p3), (0, .ref tp), (1, .ref lw)]) X (by decide) rfl dX9_readInto_89 ?_
              refine V_aload_n X 1 rfl dX9_readInto_90 ?_
              refine V_iconst (v := (0 : Int32)) X (by decide) dX9_readInto_91 ?_
              refine V_put (C := RX9) (T := TX9) (N := 5) (ci := 8) (v := .int (0 : Int32)) (ty := tyX9 1) (ws' := [(lw, .inr (4, [.ref ws_, .ref ww, .ref wt, .ref wn, .ref wg, .ref wi, .int lz3])), (ws_, .inl (Y 0, 128, .inl fs3)), (ww, .inl (Y 0, 128, .inl fw3)), (wi, .inl (Y 0, 640, .inl fi2_2)), (tp, .inr (8, [.ref tb, .int (0 : Int32), .ref lw, .int p3, .int fa3])), (tb, .inl (Y 0, 120, .inl fb))]) X in_X9_readInto_X9 4 rfl rfl 1 (by decide) (List.mem_of_getElem? (i := 4) rfl) rfl tyX9 tyX9_ok nmX9 rfl (tyX9_ok 1 (by decide)) rfl rfl (Nat.le_of_ble_eq_true rfl) rfl dX9_readInto_92 ?_
              refine V_iload_n X 0 rfl dX9_readInto_95 ?_
              refine V_ws (ws' := [(tp, .inr (8, [.ref tb, .int (0 : Int32), .ref lw, .int p3, .int fa3])), (tb, .inl (Y 0, 120, .inl fb)), (lw, .inr (4, [.ref ws_, .ref ww, .ref wt, .ref wn, .ref wg, .ref wi, .int lz3])), (ws_, .inl (Y 0, 128, .inl fs3)), (ww, .inl (Y 0, 128, .inl fw3)), (wi, .inl (Y 0, 640, .inl fi2_2))]) [4, 5, 0, 1, 2, 3] rfl rfl rfl ?_
              exact V_iret X hr dX9_readInto_96 (Or.inr (⟨p3, q, lz3, fs3, fw3, fi2_2, p3, fa3, rfl, rfl, tp3, (Or.inl hDD.2), hqL3⟩))
            · have hdg := hDD.1.resolve_left (by omega)
              have hqlt := CHR_lt hCH (show c q ≠ -1 by omega)
              refine V_aload_n X 0 rfl dX9_readInto_70 ?_
              refine V_get (C := RX9) (T := TX9) (N := 5) (ci := 8) (v := .int p3) X in_X9_readInto_X9 4 rfl rfl 3 (by decide) (List.mem_of_getElem? (i := 2) rfl) rfl rfl dX9_readInto_71 ?_
              refine V_aload_n X 0 rfl dX9_readInto_74 ?_
              refine V_get (C := RX9) (T := TX9) (N := 5) (ci := 8) (v := .int tl) X in_X9_readInto_X9 4 rfl rfl 1 (by decide) (List.mem_of_getElem? (i := 4) rfl) rfl rfl dX9_readInto_75 ?_
              refine V_icmp_ge X tp3 ttl 88 dX9_readInto_78 (by decide) (fun c_78 => False.elim (by omega)) (fun c_78 => ?_)
              refine V_aload_n X 0 rfl dX9_readInto_81 ?_
              refine V_get (C := RX9) (T := TX9) (N := 5) (ci := 8) (v := .int p3) X in_X9_readInto_X9 4 rfl rfl 3 (by decide) (List.mem_of_getElem? (i := 2) rfl) rfl rfl dX9_readInto_82 ?_
              refine V_goto X 89 (by decide) dX9_readInto_85 ?_
              refine V_istore_n (ls' := [(2, .int p3), (0, .ref tp), (1, .ref lw)]) X (by decide) rfl dX9_readInto_89 ?_
              refine V_aload_n X 1 rfl dX9_readInto_90 ?_
              refine V_iconst (v := (0 : Int32)) X (by decide) dX9_readInto_91 ?_
              refine V_put (C := RX9) (T := TX9) (N := 5) (ci := 8) (v := .int (0 : Int32)) (ty := tyX9 1) (ws' := [(lw, .inr (4, [.ref ws_, .ref ww, .ref wt, .ref wn, .ref wg, .ref wi, .int lz3])), (ws_, .inl (Y 0, 128, .inl fs3)), (ww, .inl (Y 0, 128, .inl fw3)), (wi, .inl (Y 0, 640, .inl fi2_2)), (tp, .inr (8, [.ref tb, .int (0 : Int32), .ref lw, .int p3, .int fa3])), (tb, .inl (Y 0, 120, .inl fb))]) X in_X9_readInto_X9 4 rfl rfl 1 (by decide) (List.mem_of_getElem? (i := 4) rfl) rfl tyX9 tyX9_ok nmX9 rfl (tyX9_ok 1 (by decide)) rfl rfl (Nat.le_of_ble_eq_true rfl) rfl dX9_readInto_92 ?_
              refine V_iload_n X 0 rfl dX9_readInto_95 ?_
              refine V_ws (ws' := [(tp, .inr (8, [.ref tb, .int (0 : Int32), .ref lw, .int p3, .int fa3])), (tb, .inl (Y 0, 120, .inl fb)), (lw, .inr (4, [.ref ws_, .ref ww, .ref wt, .ref wn, .ref wg, .ref wi, .int lz3])), (ws_, .inl (Y 0, 128, .inl fs3)), (ww, .inl (Y 0, 128, .inl fw3)), (wi, .inl (Y 0, 640, .inl fi2_2))]) [4, 5, 0, 1, 2, 3] rfl rfl rfl ?_
              exact V_iret X hr dX9_readInto_96 (Or.inr (⟨p3, q, lz3, fs3, fw3, fi2_2, p3, fa3, rfl, rfl, tp3, (Or.inl hDD.2), hqL3⟩))
        · have hpe := hhpk_59
          have hAL := hLI.resolve_right (fun hDD => (PK_m1 hpe hDD.1).2.1 (by omega))
          obtain ⟨h0a, ls_, ht3, hb3, hP3⟩ := hAL
          have h0a : fa3.toInt = 0 := h0a
          have hc59 : c q = 59 := PK_eq (PK_0 hpe h0a) (by omega) (by decide) (by decide)
          have hqlt := CHR_lt hCH (show c q ≠ -1 by omega)
          refine V_aload_n X 0 rfl dX9_readInto_43 ?_
          refine V_dup X rfl dX9_readInto_44 ?_
          refine V_get (C := RX9) (T := TX9) (N := 5) (ci := 8) (v := .int p3) X in_X9_readInto_X9 4 rfl rfl 3 (by decide) (List.mem_of_getElem? (i := 2) rfl) rfl rfl dX9_readInto_45 ?_
          refine V_iconst (v := (1 : Int32)) X (by decide) dX9_readInto_48 ?_
          refine V_iaddZ X tp3 (show (1 : Int32).toInt = 1 from by decide) (by omega) (by omega) dX9_readInto_49 (fun x_61 ex_61 tx_61 => ?_)
          have tx_61 : x_61.toInt = (((q + 1) : Nat) : Int) := by omega
          refine V_put (C := RX9) (T := TX9) (N := 5) (ci := 8) (v := .int x_61) (ty := tyX9 3) (ws' := [(lw, .inr (4, [.ref ws_, .ref ww, .ref wt, .ref wn, .ref wg, .ref wi, .int lz3])), (ws_, .inl (Y 0, 128, .inl fs3)), (ww, .inl (Y 0, 128, .inl fw3)), (wi, .inl (Y 0, 640, .inl fi2_2)), (tp, .inr (8, [.ref tb, .int tl, .ref lw, .int x_61, .int fa3])), (tb, .inl (Y 0, 120, .inl fb))]) X in_X9_readInto_X9 4 rfl rfl 3 (by decide) (List.mem_of_getElem? (i := 2) rfl) rfl tyX9 tyX9_ok nmX9 rfl (tyX9_ok 3 (by decide)) rfl rfl (Nat.le_of_ble_eq_true rfl) rfl dX9_readInto_50 ?_
          refine V_aload_n X 0 rfl dX9_readInto_53 ?_
          refine V_callV (C := RX9) (wr := [(wi, .inl (Y 0, 640, .inl fi2_2))]) (st := []) X (c_X9_readLine l D Y tp tb lw tl x_61 fa3 (q + 1) L c ws_ ww wt wn wg wi lz3 fs3 fw3 t3 fb ttl hL tx_61 (by omega) hCH hLC3 h0a hb3) 0 gX9_readInto_X9_readLine rfl (by decide +kernel) ⟨rfl, rfl⟩ ⟨Nat.le_of_ble_eq_true rfl, Nat.le_of_ble_eq_true rfl⟩ [4, 5, 0, 1, 2] [3] rfl rfl rfl rfl (by decide) (ci := 8) rfl rfl 0 rfl rfl rfl (Nat.le_of_ble_eq_true rfl) ⟨Nat.le_of_ble_eq_true rfl, Nat.le_of_ble_eq_true rfl⟩ dX9_readInto_54 (fun v_54 w_54 h_54 => ?_)
          rcases h_54 with ⟨q_g, x_g, pl2_65, lz2_66, fs2_67, fw2_68, rfl, rfl, tplg, hRg, hqbg, hLg⟩ | ⟨q_g, t1_g, pl2_75, fa2_76, lz2_77, fs2_78, fw2_79, rfl, rfl, tplg, hRg, hqLg, hDg, hLg⟩
          · refine V_to (pc' := 57) (ls' := [(0, .ref tp), (1, .ref lw), (2, .int i2)]) (st' := []) (ws' := [(wi, .inl (Y 0, 640, .inl fi2_2)), (tp, .inr (8, [.ref tb, .int tl, .ref lw, .int pl2_65, .int fa3])), (tb, .inl (Y 0, 120, .inl fb)), (lw, .inr (4, [.ref ws_, .ref ww, .ref wt, .ref wn, .ref wg, .ref wi, .int lz2_66])), (ws_, .inl (Y 0, 128, .inl fs2_67)), (ww, .inl (Y 0, 128, .inl fw2_68))]) ?_ rfl rfl rfl rfl
            refine V_iincZ X (fun vv_ => [(2, .int vv_), (0, .ref tp), (1, .ref lw)]) ti2 (by omega) (by omega) (by decide) 2 rfl (by decide) (fun _ => rfl) dX9_readInto_57 (fun x_85 ex_85 tx_85 => ?_)
            have tx_85 : x_85.toInt = (((i + 1) : Nat) : Int) := by omega
            refine V_goto X 28 (by decide) dX9_readInto_60 ?_
            refine V_ls (ls' := [(0, .ref tp), (1, .ref lw), (2, .int x_85)]) [1, 2, 0] rfl ?_
            refine V_ws (ws' := [(tp, .inr (8, [.ref tb, .int tl, .ref lw, .int pl2_65, .int fa3])), (tb, .inl (Y 0, 120, .inl fb)), (lw, .inr (4, [.ref ws_, .ref ww, .ref wt, .ref wn, .ref wg, .ref wi, .int lz2_66])), (ws_, .inl (Y 0, 128, .inl fs2_67)), (ww, .inl (Y 0, 128, .inl fw2_68)), (wi, .inl (Y 0, 640, .inl fi2_2))]) [1, 2, 3, 4, 5, 0] rfl rfl rfl ?_
            exact V_to (ih_28 x_85 (i + 1) pl2_65 q_g fa3 lz2_66 fs2_67 fw2_68 (t3 ++ codeL t3.length x_g) ⟨(by omega), tplg, (by omega), hqbg.2.1, hLg, (Or.inl ⟨h0a, ls_ ++ [x_g], by rw [codeT_s, ht3], hqbg.2.2, (by rw [show 120 - (i + 1) = 120 - i - 1 by omega]; exact pTx_y hP3 (by omega) hc59 hRg)⟩)⟩ (by omega)) rfl rfl rfl rfl
          · refine V_to (pc' := 57) (ls' := [(0, .ref tp), (1, .ref lw), (2, .int i2)]) (st' := []) (ws' := [(wi, .inl (Y 0, 640, .inl fi2_2)), (tp, .inr (8, [.ref tb, .int tl, .ref lw, .int pl2_75, .int fa2_76])), (tb, .inl (Y 0, 120, .inl fb)), (lw, .inr (4, [.ref ws_, .ref ww, .ref wt, .ref wn, .ref wg, .ref wi, .int lz2_77])), (ws_, .inl (Y 0, 128, .inl fs2_78)), (ww, .inl (Y 0, 128, .inl fw2_79))]) ?_ rfl rfl rfl rfl
            refine V_iincZ X (fun vv_ => [(2, .int vv_), (0, .ref tp), (1, .ref lw)]) ti2 (by omega) (by omega) (by decide) 2 rfl (by decide) (fun _ => rfl) dX9_readInto_57 (fun x_86 ex_86 tx_86 => ?_)
            have tx_86 : x_86.toInt = (((i + 1) : Nat) : Int) := by omega
            refine V_goto X 28 (by decide) dX9_readInto_60 ?_
            refine V_ls (ls' := [(0, .ref tp), (1, .ref lw), (2, .int x_86)]) [1, 2, 0] rfl ?_
            refine V_ws (ws' := [(tp, .inr (8, [.ref tb, .int tl, .ref lw, .int pl2_75, .int fa2_76])), (tb, .inl (Y 0, 120, .inl fb)), (lw, .inr (4, [.ref ws_, .ref ww, .ref wt, .ref wn, .ref wg, .ref wi, .int lz2_77])), (ws_, .inl (Y 0, 128, .inl fs2_78)), (ww, .inl (Y 0, 128, .inl fw2_79)), (wi, .inl (Y 0, 640, .inl fi2_2))]) [1, 2, 3, 4, 5, 0] rfl rfl rfl ?_
            exact V_to (ih_28 x_86 (i + 1) pl2_75 q_g fa2_76 lz2_77 fs2_78 fw2_79 t1_g ⟨(by omega), tplg, (by omega), hqLg, hLg, (Or.inr ⟨hDg, pTx_n hP3 (by omega) hc59 hRg⟩)⟩ (by omega)) rfl rfl rfl rfl
    · exact ⟨(by have h9 : (0 : Int32).toInt = 0 := (show (0 : Int32).toInt = 0 from by decide); omega), tplf, (by omega), hqLf, hLf, (Or.inr ⟨hDf, pAll_n hRf⟩)⟩

theorem in_X10_law_X10 : ∀ w ∈ wsX100, w ∈ wsX10_law := fun w h => List.mem_cons_of_mem _ (List.mem_append_left _ (List.mem_append_left _ (List.mem_append_left _ (List.mem_append_right _ h))))
theorem in_X10_law_X3 : ∀ w ∈ wsX30, w ∈ wsX10_law := fun w h => List.mem_cons_of_mem _ (List.mem_append_left _ (List.mem_append_left _ (List.mem_append_right _ h)))
set_option maxHeartbeats 4000000 in
set_option maxRecDepth 100000 in
theorem c_X10_law (l : Launch) (D : va_G) (Y : Nat → ClassId) (x : Nat) (sgs : Nat) (ch : Nat) (g : Nat) (tp : Nat) (d : Nat) (di : Nat) (cg : Nat) (at_ : Nat) (shs : Nat) (sl_ : Nat) (fo : Int32) (ik : Int32) (tb : Nat) (tl : Int32) (lw0 : Nat) (pl : Int32) (fa : Int32) (L : Nat) (c : Nat → Int) (ws_ : Nat) (ww : Nat) (wt : Nat) (wn : Nat) (wg : Nat) (wi : Nat) (lz : Int32) (fb : Nat → Int32) (fs : Nat → Int32) (fw : Nat → Int32) (fi : Nat → Int32) (cs : Nat) (bb : Int32) (lw : Nat) (ttl : tl.toInt = ((L : Nat) : Int)) (hL : L ≤ 120) (hCH : CHR fb L c) : Mg l yX10_law wsX10_law ({ frames := 59, cells := 0, slots := 0, locals := 2147 }) D Y [(x, .inr (9, [.ref sgs, .ref ch, .ref g, .ref tp, .ref d, .ref di, .ref cg, .ref at_, .ref shs, .ref sl_, .int fo, .int ik])), (tp, .inr (8, [.ref tb, .int tl, .ref lw0, .int pl, .int fa])), (tb, .inl (Y 0, 120, .inl fb)), (ch, .inr (2, [.ref cs, .ref lw, .int bb])), (sl_, .inr (4, [.ref ws_, .ref ww, .ref wt, .ref wn, .ref wg, .ref wi, .int lz])), (ws_, .inl (Y 0, 128, .inl fs)), (ww, .inl (Y 0, 128, .inl fw)), (wi, .inl (Y 0, 640, .inl fi))] [.ref x] 0 0 (fun vv__ ww__ => (∃ (ls : List Lin), ∃ (lz2 : Int32), ∃ (fs2 : Nat → Int32), ∃ (fw2 : Nat → Int32), ∃ (fi2 : Nat → Int32), ∃ (pl2 : Int32), ∃ (fa2 : Int32), vv__ = some (.int (1 : Int32)) ∧ ww__ = [(x, .inr (9, [.ref sgs, .ref ch, .ref g, .ref tp, .ref d, .ref di, .ref cg, .ref at_, .ref shs, .ref lw, .int fo, .int ik])), (tp, .inr (8, [.ref tb, .int (0 : Int32), .ref sl_, .int pl2, .int fa2])), (tb, .inl (Y 0, 120, .inl fb)), (ch, .inr (2, [.ref cs, .ref sl_, .int bb])), (sl_, .inr (4, [.ref ws_, .ref ww, .ref wt, .ref wn, .ref wg, .ref wi, .int lz2])), (ws_, .inl (Y 0, 128, .inl fs2)), (ww, .inl (Y 0, 128, .inl fw2)), (wi, .inl (Y 0, 640, .inl fi2))] ∧ (pAll c = (L, some ls)) ∧ (LC fs2 fw2 lz2 (codeT ls)) ∧ (∀ j, j < 640 → fi2 j = 0)) ∨ (∃ (r : Int32), ∃ (q : Nat), ∃ (lz2 : Int32), ∃ (fs2 : Nat → Int32), ∃ (fw2 : Nat → Int32), ∃ (fi2 : Nat → Int32), ∃ (pl2 : Int32), ∃ (fa2 : Int32), vv__ = some (.int r) ∧ ww__ = [(x, .inr (9, [.ref sgs, .ref ch, .ref g, .ref tp, .ref d, .ref di, .ref cg, .ref at_, .ref shs, .ref sl_, .int fo, .int ik])), (tp, .inr (8, [.ref tb, .int (0 : Int32), .ref sl_, .int pl2, .int fa2])), (tb, .inl (Y 0, 120, .inl fb)), (ch, .inr (2, [.ref cs, .ref lw, .int bb])), (sl_, .inr (4, [.ref ws_, .ref ww, .ref wt, .ref wn, .ref wg, .ref wi, .int lz2])), (ws_, .inl (Y 0, 128, .inl fs2)), (ww, .inl (Y 0, 128, .inl fw2)), (wi, .inl (Y 0, 640, .inl fi2))] ∧ (r.toInt = -100 - ((q : Nat) : Int)) ∧ (pAll c = (q, none) ∨ ∃ ls, pAll c = (q, some ls) ∧ q < L) ∧ (q ≤ L))) := by
  refine Mg_of (cc := cX10_law) (maxL := 3) (ret := (some .int)) (ls0 := [(0, .ref x)]) RX10 (by decide) rfl rfl rfl (Nat.le_of_ble_eq_true rfl) (fun p__ e__ s__ m__ b__ t__ c__ X hr hn => ?_)
  refine V_aload_n X 0 rfl dX10_law_0 ?_
  refine V_get (C := RX10) (T := TX10) (N := 12) (ci := 9) (v := .ref tp) X in_X10_law_X10 0 rfl rfl 3 (by decide) (List.mem_of_getElem? (i := 1) rfl) rfl rfl dX10_law_1 ?_
  refine V_aload_n X 0 rfl dX10_law_4 ?_
  refine V_get (C := RX10) (T := TX10) (N := 12) (ci := 9) (v := .ref sl_) X in_X10_law_X10 0 rfl rfl 9 (by decide) (List.mem_of_getElem? (i := 2) rfl) rfl rfl dX10_law_5 ?_
  refine V_callV (C := RX9) (wr := [(x, .inr (9, [.ref sgs, .ref ch, .ref g, .ref tp, .ref d, .ref di, .ref cg, .ref at_, .ref shs, .ref sl_, .int fo, .int ik])), (ch, .inr (2, [.ref cs, .ref lw, .int bb]))]) (st := []) X (c_X9_readInto l D Y tp sl_ tb tl lw0 pl fa L c ws_ ww wt wn wg wi lz fb fs fw fi ttl hL hCH) 1 gX10_law_X9_readInto rfl (by decide +kernel) ⟨rfl, rfl⟩ ⟨Nat.le_of_ble_eq_true rfl, Nat.le_of_ble_eq_true rfl⟩ [1, 2, 4, 5, 6, 7] [0, 3] rfl rfl rfl rfl (by decide) (ci := 8) rfl rfl 0 rfl rfl rfl (Nat.le_of_ble_eq_true rfl) ⟨Nat.le_of_ble_eq_true rfl, Nat.le_of_ble_eq_true rfl⟩ dX10_law_8 (fun v_8 w_8 h_8 => ?_)
  rcases h_8 with ⟨ls_w, lz2_3, fs2_4, fw2_5, fi2_6, pl2_7, fa2_8, rfl, rfl, hhR_9, hhLC2_10, hhfi_11⟩ | ⟨r_12, q_w, lz2_14, fs2_15, fw2_16, fi2_17, pl2_18, fa2_19, rfl, rfl, htr_20, hhR_21, hhqL_22⟩
  · refine V_to (pc' := 11) (ls' := [(0, .ref x)]) (st' := [.int (-1 : Int32)]) (ws' := [(x, .inr (9, [.ref sgs, .ref ch, .ref g, .ref tp, .ref d, .ref di, .ref cg, .ref at_, .ref shs, .ref sl_, .int fo, .int ik])), (ch, .inr (2, [.ref cs, .ref lw, .int bb])), (tp, .inr (8, [.ref tb, .int (0 : Int32), .ref sl_, .int pl2_7, .int fa2_8])), (tb, .inl (Y 0, 120, .inl fb)), (sl_, .inr (4, [.ref ws_, .ref ww, .ref wt, .ref wn, .ref wg, .ref wi, .int lz2_3])), (ws_, .inl (Y 0, 128, .inl fs2_4)), (ww, .inl (Y 0, 128, .inl fw2_5)), (wi, .inl (Y 0, 640, .inl fi2_6))]) ?_ rfl rfl rfl rfl
    refine V_istore_n (ls' := [(1, .int (-1 : Int32)), (0, .ref x)]) X (by decide) rfl dX10_law_11 ?_
    refine V_iload_n X 0 rfl dX10_law_12 ?_
    refine V_if_lt X (show (-1 : Int32).toInt = (-1) from by decide) 21 dX10_law_13 (by decide) (fun _ => ?_) (fun c_13 => absurd c_13 (by decide))
    refine V_aload_n X 1 rfl dX10_law_21 ?_
    refine V_get (C := RX10) (T := TX10) (N := 12) (ci := 9) (v := .ref ch) X in_X10_law_X10 0 rfl rfl 1 (by decide) (List.mem_of_getElem? (i := 3) rfl) rfl rfl dX10_law_22 ?_
    refine V_get (C := RX3) (T := TX3) (N := 3) (ci := 2) (v := .ref lw) X in_X10_law_X3 1 rfl rfl 1 (by decide) (List.mem_of_getElem? (i := 4) rfl) rfl rfl dX10_law_25 ?_
    refine V_astore_n (ls' := [(2, .ref lw), (1, .int (-1 : Int32)), (0, .ref x)]) X (by decide) rfl dX10_law_28 ?_
    refine V_aload_n X 2 rfl dX10_law_29 ?_
    refine V_get (C := RX10) (T := TX10) (N := 12) (ci := 9) (v := .ref ch) X in_X10_law_X10 0 rfl rfl 1 (by decide) (List.mem_of_getElem? (i := 3) rfl) rfl rfl dX10_law_30 ?_
    refine V_aload_n X 2 rfl dX10_law_33 ?_
    refine V_get (C := RX10) (T := TX10) (N := 12) (ci := 9) (v := .ref sl_) X in_X10_law_X10 0 rfl rfl 9 (by decide) (List.mem_of_getElem? (i := 2) rfl) rfl rfl dX10_law_34 ?_
    refine V_put (C := RX3) (T := TX3) (N := 3) (ci := 2) (v := .ref sl_) (ty := tyX3 1) (ws' := [(x, .inr (9, [.ref sgs, .ref ch, .ref g, .ref tp, .ref d, .ref di, .ref cg, .ref at_, .ref shs, .ref sl_, .int fo, .int ik])), (ch, .inr (2, [.ref cs, .ref sl_, .int bb])), (tp, .inr (8, [.ref tb, .int (0 : Int32), .ref sl_, .int pl2_7, .int fa2_8])), (tb, .inl (Y 0, 120, .inl fb)), (sl_, .inr (4, [.ref ws_, .ref ww, .ref wt, .ref wn, .ref wg, .ref wi, .int lz2_3])), (ws_, .inl (Y 0, 128, .inl fs2_4)), (ww, .inl (Y 0, 128, .inl fw2_5)), (wi, .inl (Y 0, 640, .inl fi2_6))]) X in_X10_law_X3 1 rfl rfl 1 (by decide) (List.mem_of_getElem? (i := 4) rfl) rfl tyX3 tyX3_ok nmX3 rfl (tyX3_ok 1 (by decide)) rfl rfl (Nat.le_of_ble_eq_true rfl) rfl dX10_law_37 ?_
    refine V_aload_n X 2 rfl dX10_law_40 ?_
    refine V_aload_n X 0 rfl dX10_law_41 ?_
    refine V_put (C := RX10) (T := TX10) (N := 12) (ci := 9) (v := .ref lw) (ty := tyX10 9) (ws' := [(x, .inr (9, [.ref sgs, .ref ch, .ref g, .ref tp, .ref d, .ref di, .ref cg, .ref at_, .ref shs, .ref lw, .int fo, .int ik])), (ch, .inr (2, [.ref cs, .ref sl_, .int bb])), (tp, .inr (8, [.ref tb, .int (0 : Int32), .ref sl_, .int pl2_7, .int fa2_8])), (tb, .inl (Y 0, 120, .inl fb)), (sl_, .inr (4, [.ref ws_, .ref ww, .ref wt, .ref wn, .ref wg, .ref wi, .int lz2_3])), (ws_, .inl (Y 0, 128, .inl fs2_4)), (ww, .inl (Y 0, 128, .inl fw2_5)), (wi, .inl (Y 0, 640, .inl fi2_6))]) X in_X10_law_X10 0 rfl rfl 9 (by decide) (List.mem_of_getElem? (i := 2) rfl) rfl tyX10 tyX10_ok nmX10 rfl (tyX10_ok 9 (by decide)) rfl rfl (Nat.le_of_ble_eq_true rfl) rfl dX10_law_42 ?_
    refine V_iconst (v := (1 : Int32)) X (by decide) dX10_law_45 ?_
    refine V_ws (ws' := [(x, .inr (9, [.ref sgs, .ref ch, .ref g, .ref tp, .ref d, .ref di, .ref cg, .ref at_, .ref shs, .ref lw, .int fo, .int ik])), (tp, .inr (8, [.ref tb, .int (0 : Int32), .ref sl_, .int pl2_7, .int fa2_8])), (tb, .inl (Y 0, 120, .inl fb)), (ch, .inr (2, [.ref cs, .ref sl_, .int bb])), (sl_, .inr (4, [.ref ws_, .ref ww, .ref wt, .ref wn, .ref wg, .ref wi, .int lz2_3])), (ws_, .inl (Y 0, 128, .inl fs2_4)), (ww, .inl (Y 0, 128, .inl fw2_5)), (wi, .inl (Y 0, 640, .inl fi2_6))]) [0, 2, 3, 1, 4, 5, 6, 7] rfl rfl rfl ?_
    exact V_iret X hr dX10_law_46 (Or.inl ⟨ls_w, lz2_3, fs2_4, fw2_5, fi2_6, pl2_7, fa2_8, rfl, rfl, hhR_9, hhLC2_10, hhfi_11⟩)
  · refine V_to (pc' := 11) (ls' := [(0, .ref x)]) (st' := [.int r_12]) (ws' := [(x, .inr (9, [.ref sgs, .ref ch, .ref g, .ref tp, .ref d, .ref di, .ref cg, .ref at_, .ref shs, .ref sl_, .int fo, .int ik])), (ch, .inr (2, [.ref cs, .ref lw, .int bb])), (tp, .inr (8, [.ref tb, .int (0 : Int32), .ref sl_, .int pl2_18, .int fa2_19])), (tb, .inl (Y 0, 120, .inl fb)), (sl_, .inr (4, [.ref ws_, .ref ww, .ref wt, .ref wn, .ref wg, .ref wi, .int lz2_14])), (ws_, .inl (Y 0, 128, .inl fs2_15)), (ww, .inl (Y 0, 128, .inl fw2_16)), (wi, .inl (Y 0, 640, .inl fi2_17))]) ?_ rfl rfl rfl rfl
    refine V_istore_n (ls' := [(1, .int r_12), (0, .ref x)]) X (by decide) rfl dX10_law_11 ?_
    refine V_iload_n X 0 rfl dX10_law_12 ?_
    refine V_if_lt X htr_20 21 dX10_law_13 (by decide) (fun c_13 => False.elim (by omega)) (fun c_13 => ?_)
    refine V_bipush (v := (-100 : Int32)) X (by decide) dX10_law_16 ?_
    refine V_iload_n X 0 rfl dX10_law_18 ?_
    refine V_isubZ X (show (-100 : Int32).toInt = (-100) from by decide) htr_20 (by omega) (by omega) dX10_law_19 (fun x_23 ex_23 tx_23 => ?_)
    refine V_ws (ws' := [(x, .inr (9, [.ref sgs, .ref ch, .ref g, .ref tp, .ref d, .ref di, .ref cg, .ref at_, .ref shs, .ref sl_, .int fo, .int ik])), (tp, .inr (8, [.ref tb, .int (0 : Int32), .ref sl_, .int pl2_18, .int fa2_19])), (tb, .inl (Y 0, 120, .inl fb)), (ch, .inr (2, [.ref cs, .ref lw, .int bb])), (sl_, .inr (4, [.ref ws_, .ref ww, .ref wt, .ref wn, .ref wg, .ref wi, .int lz2_14])), (ws_, .inl (Y 0, 128, .inl fs2_15)), (ww, .inl (Y 0, 128, .inl fw2_16)), (wi, .inl (Y 0, 640, .inl fi2_17))]) [0, 2, 3, 1, 4, 5, 6, 7] rfl rfl rfl ?_
    exact V_iret X hr dX10_law_20 (Or.inr (⟨x_23, q_w, lz2_14, fs2_15, fw2_16, fi2_17, pl2_18, fa2_19, rfl, rfl, (by omega), hhR_21, hhqL_22⟩))
