
/-! ===== operands; a LINE; a TEXT ===== -/
theorem pOp_d {c : Nat → Int} {k pos : Nat} (h : 48 ≤ c pos ∧ c pos ≤ 57) : pOp c k pos = pFig c pos := by
  cases k with
  | zero => show (if _ then _ else _) = _; rw [if_pos h]
  | succ k => show (if _ then _ else _) = _; rw [if_pos h]
theorem pOp_n {c : Nat → Int} {k pos : Nat} (h0 : ¬ (48 ≤ c pos ∧ c pos ≤ 57)) (h : 0 ≤ nmC (c pos)) : pOp c k pos = (pos + 1, some [(97, nmC (c pos))]) := by
  cases k with
  | zero => show (if _ then _ else _) = _; rw [if_neg h0, if_pos h]
  | succ k => show (if _ then _ else _) = _; rw [if_neg h0, if_pos h]
theorem nmC_40 : nmC 40 = -1 := by decide
theorem pOp_p {c : Nat → Int} {k pos : Nat} (h : c pos = 40) : pOp c (k + 1) pos = pPa c (pTm c (pOp c k) 5 (pos + 1)) := by
  show (if _ then _ else _) = _
  rw [if_neg (by omega), if_neg (by rw [h]; decide), if_pos h]
theorem pOp_u {c : Nat → Int} {k pos : Nat} (h : c pos = 33 ∨ c pos = 45) : pOp c (k + 1) pos = pNe (if c pos = 45 then 126 else 33) (pOp c k (pos + 1)) := by
  show (if _ then _ else _) = _
  rw [if_neg (by omega), if_neg (by rcases h with h | h <;> (rw [h]; decide)), if_neg (by omega), if_pos h]
theorem pOp_x {c : Nat → Int} {k pos : Nat} (h0 : ¬ (48 ≤ c pos ∧ c pos ≤ 57)) (h1 : nmC (c pos) < 0) (h2 : k = 0 ∨ (c pos ≠ 40 ∧ c pos ≠ 33 ∧ c pos ≠ 45)) : pOp c k pos = (pos, none) := by
  cases k with
  | zero => show (if _ then _ else _) = _; rw [if_neg h0, if_neg (by omega)]
  | succ k => show (if _ then _ else _) = _; rw [if_neg h0, if_neg (by omega), if_neg (by omega), if_neg (by omega)]
theorem pFig_y {c : Nat → Int} {pos q : Nat} (hq : q = (pDg c 4 pos 0).1) (h : 48 ≤ c q ∧ c q ≤ 57) : pFig c pos = (q, none) := by unfold pFig; rw [← hq, if_pos h]
theorem pFig_n {c : Nat → Int} {pos q : Nat} (hq : q = (pDg c 4 pos 0).1) (h : ¬ (48 ≤ c q ∧ c q ≤ 57)) : pFig c pos = (q, some [(48, (pDg c 4 pos 0).2)]) := by unfold pFig; rw [← hq, if_neg h]
theorem pPa_s {c : Nat → Int} {r : PRs} {q : Nat} {ts : List Tok} (h : r = (q, some ts)) (h41 : c q = 41) : pPa c r = (q + 1, some ts) := by unfold pPa; rw [pBd_s h, if_pos h41]
theorem pPa_x {c : Nat → Int} {r : PRs} {q : Nat} {ts : List Tok} (h : r = (q, some ts)) (h41 : c q ≠ 41) : pPa c r = (q, none) := by unfold pPa; rw [pBd_s h, if_neg h41]
theorem pNe_s {v : Int} {r : PRs} {q : Nat} {ts : List Tok} (h : r = (q, some ts)) : pNe v r = (q, some (ts ++ [(v, 0)])) := pBd_s h
abbrev Lin : Type := Option (List Tok) × List Tok
def pT0 (c : Nat → Int) : Nat → PRs := pTm c (pOp c 6) 5
def pLn (c : Nat → Int) (pos : Nat) : Nat × Option Lin := match pT0 c pos with
  | (q, none) => (q, none)
  | (q, some ts) => if c q = 63 then (match pT0 c (q + 1) with
    | (q2, none) => (q2, none)
    | (q2, some t2) => (q2, some (some ts, t2))) else (q, some (none, ts))
def pTx (c : Nat → Int) : Nat → Nat → List Lin → Nat × Option (List Lin)
  | 0, q, ls => (q, some ls)
  | n + 1, q, ls => if c q = 59 then (match pLn c (q + 1) with
    | (q2, none) => (q2, none)
    | (q2, some x) => pTx c n q2 (ls ++ [x])) else (q, some ls)
def pAll (c : Nat → Int) : Nat × Option (List Lin) := match pLn c 0 with
  | (q, none) => (q, none)
  | (q, some x) => pTx c 120 q [x]
theorem pLn_n {c : Nat → Int} {pos q : Nat} (h : pT0 c pos = (q, none)) : pLn c pos = (q, none) := by unfold pLn; rw [h]
theorem pLn_1 {c : Nat → Int} {pos q : Nat} {ts : List Tok} (h : pT0 c pos = (q, some ts)) (hc : c q ≠ 63) : pLn c pos = (q, some (none, ts)) := by unfold pLn; rw [h]; show (if _ then _ else _) = _; rw [if_neg hc]
theorem pLn_2n {c : Nat → Int} {pos q q2 : Nat} {ts : List Tok} (h : pT0 c pos = (q, some ts)) (hc : c q = 63) (h2 : pT0 c (q + 1) = (q2, none)) : pLn c pos = (q2, none) := by unfold pLn; rw [h]; show (if _ then _ else _) = _; rw [if_pos hc, h2]
theorem pLn_2 {c : Nat → Int} {pos q q2 : Nat} {ts t2 : List Tok} (h : pT0 c pos = (q, some ts)) (hc : c q = 63) (h2 : pT0 c (q + 1) = (q2, some t2)) : pLn c pos = (q2, some (some ts, t2)) := by unfold pLn; rw [h]; show (if _ then _ else _) = _; rw [if_pos hc, h2]
theorem pTx_x {c : Nat → Int} {n q : Nat} {ls : List Lin} {P : Nat × Option (List Lin)} (h : pTx c n q ls = P) (hc : n = 0 ∨ c q ≠ 59) : P = (q, some ls) := by
  cases n with
  | zero => exact h.symm
  | succ n => rw [pTx, if_neg (hc.resolve_left (Nat.succ_ne_zero n))] at h; exact h.symm
theorem pTx_n {c : Nat → Int} {n q q2 : Nat} {ls : List Lin} {P : Nat × Option (List Lin)} (h : pTx c n q ls = P) (hn : 0 < n) (hc : c q = 59) (h2 : pLn c (q + 1) = (q2, none)) : P = (q2, none) := by
  cases n with
  | zero => omega
  | succ n => rw [pTx, if_pos hc, h2] at h; exact h.symm
theorem pTx_y {c : Nat → Int} {n q q2 : Nat} {ls : List Lin} {x : Lin} {P : Nat × Option (List Lin)} (h : pTx c n q ls = P) (hn : 0 < n) (hc : c q = 59) (h2 : pLn c (q + 1) = (q2, some x)) : pTx c (n - 1) q2 (ls ++ [x]) = P := by
  cases n with
  | zero => omega
  | succ n => rw [pTx, if_pos hc, h2] at h; exact h
theorem pAll_n {c : Nat → Int} {q : Nat} (h : pLn c 0 = (q, none)) : pAll c = (q, none) := by unfold pAll; rw [h]
theorem pAll_s {c : Nat → Int} {q : Nat} {x : Lin} (h : pLn c 0 = (q, some x)) : pAll c = pTx c 120 q [x] := by unfold pAll; rw [h]
/-- the steps of a LINE that begins with step n -/
def codeL (n : Nat) : Lin → List Tok
  | (none, ts) => ts ++ [(59, 0)]
  | (some t, ts) => t ++ ((63, ((n + t.length + 1 + ts.length + 1 : Nat) : Int)) :: (ts ++ [(59, 0)]))
def codeT (ls : List Lin) : List Tok := ls.foldl (fun a x => a ++ codeL a.length x) []
theorem codeT_s (ls : List Lin) (x : Lin) : codeT (ls ++ [x]) = codeT ls ++ codeL (codeT ls).length x := by unfold codeT; rw [List.foldl_append]; rfl
theorem in_X9_readOperand_X9 : ∀ w ∈ wsX90, w ∈ wsX9_readOperand := fun w h => List.mem_cons_of_mem _ (List.mem_append_left _ (List.mem_append_right _ h))
set_option maxHeartbeats 4000000 in
set_option maxRecDepth 100000 in
theorem c_X9_readOperand_0 (l : Launch) (D : va_G) (Y : Nat → ClassId) (tp : Nat) (tb : Nat) (lw : Nat) (tl : Int32) (pl : Int32) (fa : Int32) (pos : Nat) (L : Nat) (c : Nat → Int) (ws_ : Nat) (ww : Nat) (wt : Nat) (wn : Nat) (wg : Nat) (wi : Nat) (lz : Int32) (fs : Nat → Int32) (fw : Nat → Int32) (t0 : List Tok) (fb : Nat → Int32) (op_ : Int32) (opn : Nat) (ttl : tl.toInt = ((L : Nat) : Int)) (hL : L ≤ 120) (tpl : pl.toInt = ((pos : Nat) : Int)) (hpL : pos ≤ L) (hCH : CHR fb L c) (hLC : LC fs fw lz t0) (hfa : fa.toInt = 0) (htp : t0.length ≤ pos) (top_ : op_.toInt = ((opn : Nat) : Int)) (hok : opn + 0 = 6) : Mg l yX9_readOperand wsX9_readOperand ({ frames := 7 * (0) + 8, cells := 0, slots := 0, locals := 250 * (0) + 400 }) D Y [(tp, .inr (8, [.ref tb, .int tl, .ref lw, .int pl, .int fa])), (tb, .inl (Y 0, 120, .inl fb)), (lw, .inr (4, [.ref ws_, .ref ww, .ref wt, .ref wn, .ref wg, .ref wi, .int lz])), (ws_, .inl (Y 0, 128, .inl fs)), (ww, .inl (Y 0, 128, .inl fw))] [.ref tp, .int op_] 0 0 (fun vv__ ww__ => (∃ (q : Nat), ∃ (ts : List Tok), ∃ (pl2 : Int32), ∃ (lz2 : Int32), ∃ (fs2 : Nat → Int32), ∃ (fw2 : Nat → Int32), vv__ = none ∧ ww__ = [(tp, .inr (8, [.ref tb, .int tl, .ref lw, .int pl2, .int fa])), (tb, .inl (Y 0, 120, .inl fb)), (lw, .inr (4, [.ref ws_, .ref ww, .ref wt, .ref wn, .ref wg, .ref wi, .int lz2])), (ws_, .inl (Y 0, 128, .inl fs2)), (ww, .inl (Y 0, 128, .inl fw2))] ∧ (pl2.toInt = ((q : Nat) : Int)) ∧ (pOp c 0 pos = (q, some ts)) ∧ (pos + ts.length ≤ q ∧ q ≤ L) ∧ (LC fs2 fw2 lz2 (t0 ++ ts))) ∨ (∃ (q : Nat), ∃ (t1 : List Tok), ∃ (pl2 : Int32), ∃ (fa2 : Int32), ∃ (lz2 : Int32), ∃ (fs2 : Nat → Int32), ∃ (fw2 : Nat → Int32), vv__ = none ∧ ww__ = [(tp, .inr (8, [.ref tb, .int tl, .ref lw, .int pl2, .int fa2])), (tb, .inl (Y 0, 120, .inl fb)), (lw, .inr (4, [.ref ws_, .ref ww, .ref wt, .ref wn, .ref wg, .ref wi, .int lz2])), (ws_, .inl (Y 0, 128, .inl fs2)), (ww, .inl (Y 0, 128, .inl fw2))] ∧ (pl2.toInt = ((q : Nat) : Int)) ∧ (pOp c 0 pos = (q, none)) ∧ (q ≤ L) ∧ (fa2.toInt ≠ 0 ∨ (48 ≤ c q ∧ c q ≤ 57)) ∧ (LC fs2 fw2 lz2 t1))) := by
  refine Mg_of (cc := cX9_readOperand) (maxL := 3) (ret := none) (ls0 := [(0, .ref tp), (1, .int op_)]) RX9 (by decide) rfl rfl rfl (Nat.le_of_ble_eq_true rfl) (fun p__ e__ s__ m__ b__ t__ c__ X hr hn => ?_)
  refine V_aload_n X 0 rfl dX9_readOperand_0 ?_
  refine V_callV (C := RX9) (wr := [(lw, .inr (4, [.ref ws_, .ref ww, .ref wt, .ref wn, .ref wg, .ref wi, .int lz])), (ws_, .inl (Y 0, 128, .inl fs)), (ww, .inl (Y 0, 128, .inl fw))]) (st := []) X (c_X9_peek l D Y tp tb lw tl pl fa pos L c fb ttl hL tpl hpL hCH) 0 gX9_readOperand_X9_peek rfl (by decide +kernel) ⟨rfl, rfl⟩ ⟨(by simp only [headSpec]; omega), (by simp only [headSpec]; omega)⟩ [0, 1] [2, 3, 4] rfl rfl rfl rfl (by decide) (ci := 8) rfl rfl 0 rfl rfl rfl (Nat.le_of_ble_eq_true rfl) ⟨Nat.le_of_ble_eq_true rfl, Nat.le_of_ble_eq_true rfl⟩ dX9_readOperand_1 (fun v_1 w_1 h_1 => ?_)
  obtain ⟨r_2, rfl, rfl, hhpk_3, hhpv_4⟩ := h_1
  refine V_to (pc' := 4) (ls' := [(0, .ref tp), (1, .int op_)]) (st' := [.int r_2]) (ws' := [(lw, .inr (4, [.ref ws_, .ref ww, .ref wt, .ref wn, .ref wg, .ref wi, .int lz])), (ws_, .inl (Y 0, 128, .inl fs)), (ww, .inl (Y 0, 128, .inl fw)), (tp, .inr (8, [.ref tb, .int tl, .ref lw, .int pl, .int fa])), (tb, .inl (Y 0, 120, .inl fb))]) ?_ rfl rfl rfl rfl
  have hpe := PK_0 hhpk_3 hfa
  refine V_istore_n (ls' := [(2, .int r_2), (0, .ref tp), (1, .int op_)]) X (by decide) rfl dX9_readOperand_4 ?_
  refine V_iload_n X 0 rfl dX9_readOperand_5 ?_
  refine V_bipush (v := (48 : Int32)) X (by decide) dX9_readOperand_6 ?_
  refine V_icmp_lt X rfl (show (48 : Int32).toInt = 48 from by decide) 24 dX9_readOperand_8 (by decide) (fun c_8 => ?_) (fun c_8 => ?_)
  · have hng : ¬ (48 ≤ c pos ∧ c pos ≤ 57) := by unfold PK at hpe; omega
    refine V_iload_n X 0 rfl dX9_readOperand_24 ?_
    refine V_callS (wr := [(lw, .inr (4, [.ref ws_, .ref ww, .ref wt, .ref wn, .ref wg, .ref wi, .int lz])), (ws_, .inl (Y 0, 128, .inl fs)), (ww, .inl (Y 0, 128, .inl fw)), (tp, .inr (8, [.ref tb, .int tl, .ref lw, .int pl, .int fa])), (tb, .inl (Y 0, 120, .inl fb))]) (st := []) X (c_X9_nameOf l D Y r_2) 1 gX9_readOperand_X9_nameOf rfl (by decide +kernel) ⟨rfl, rfl⟩ ⟨(by simp only [headSpec]; omega), (by simp only [headSpec]; omega)⟩ [] [0, 1, 2, 3, 4] rfl rfl rfl rfl (by decide) rfl rfl (Nat.le_of_ble_eq_true rfl) ⟨Nat.le_of_ble_eq_true rfl, Nat.le_of_ble_eq_true rfl⟩ dX9_readOperand_25 (fun v_25 w_25 h_25 => ?_)
    obtain ⟨r_6, rfl, rfl, htr_7⟩ := h_25
    refine V_to (pc' := 28) (ls' := [(2, .int r_2), (0, .ref tp), (1, .int op_)]) (st' := [.int r_6]) (ws' := [(lw, .inr (4, [.ref ws_, .ref ww, .ref wt, .ref wn, .ref wg, .ref wi, .int lz])), (ws_, .inl (Y 0, 128, .inl fs)), (ww, .inl (Y 0, 128, .inl fw)), (tp, .inr (8, [.ref tb, .int tl, .ref lw, .int pl, .int fa])), (tb, .inl (Y 0, 120, .inl fb))]) ?_ rfl rfl rfl rfl
    refine V_if_lt X htr_7 57 dX9_readOperand_28 (by decide) (fun c_28 => ?_) (fun c_28 => ?_)
    · have hnn : nmC (c pos) < 0 := by rw [← nmC_PK hpe]; omega
      refine V_iload_n X 0 rfl dX9_readOperand_57 ?_
      refine V_bipush (v := (40 : Int32)) X (by decide) dX9_readOperand_58 ?_
      refine V_icmp_eq X rfl (show (40 : Int32).toInt = 40 from by decide) 75 dX9_readOperand_60 (by decide) (fun c_60 => ?_) (fun c_60 => ?_)
      · refine V_iload_n X 2 rfl dX9_readOperand_75 ?_
        refine V_bipush (v := (6 : Int32)) X (by decide) dX9_readOperand_76 ?_
        refine V_icmp_ge X top_ (show (6 : Int32).toInt = 6 from by decide) 165 dX9_readOperand_78 (by decide) (fun c_78 => ?_) (fun c_78 => False.elim (by omega))
        refine V_aload_n X 1 rfl dX9_readOperand_165 ?_
        refine V_iconst (v := (1 : Int32)) X (by decide) dX9_readOperand_166 ?_
        refine V_put (C := RX9) (T := TX9) (N := 5) (ci := 8) (v := .int (1 : Int32)) (ty := tyX9 4) (ws' := [(lw, .inr (4, [.ref ws_, .ref ww, .ref wt, .ref wn, .ref wg, .ref wi, .int lz])), (ws_, .inl (Y 0, 128, .inl fs)), (ww, .inl (Y 0, 128, .inl fw)), (tp, .inr (8, [.ref tb, .int tl, .ref lw, .int pl, .int (1 : Int32)])), (tb, .inl (Y 0, 120, .inl fb))]) X in_X9_readOperand_X9 3 rfl rfl 4 (by decide) (List.mem_of_getElem? (i := 3) rfl) rfl tyX9 tyX9_ok nmX9 rfl (tyX9_ok 4 (by decide)) rfl rfl (Nat.le_of_ble_eq_true rfl) rfl dX9_readOperand_167 ?_
        refine V_ws (ws' := [(tp, .inr (8, [.ref tb, .int tl, .ref lw, .int pl, .int (1 : Int32)])), (tb, .inl (Y 0, 120, .inl fb)), (lw, .inr (4, [.ref ws_, .ref ww, .ref wt, .ref wn, .ref wg, .ref wi, .int lz])), (ws_, .inl (Y 0, 128, .inl fs)), (ww, .inl (Y 0, 128, .inl fw))]) [3, 4, 0, 1, 2] rfl rfl rfl ?_
        exact V_vret X hr dX9_readOperand_170 (Or.inr (⟨pos, t0, pl, (1 : Int32), lz, fs, fw, rfl, rfl, (by omega), (pOp_x hng hnn (Or.inl rfl)), (by omega), (Or.inl (by decide)), hLC⟩))
      · refine V_iload_n X 0 rfl dX9_readOperand_63 ?_
        refine V_bipush (v := (33 : Int32)) X (by decide) dX9_readOperand_64 ?_
        refine V_icmp_eq X rfl (show (33 : Int32).toInt = 33 from by decide) 75 dX9_readOperand_66 (by decide) (fun c_66 => ?_) (fun c_66 => ?_)
        · refine V_iload_n X 2 rfl dX9_readOperand_75 ?_
          refine V_bipush (v := (6 : Int32)) X (by decide) dX9_readOperand_76 ?_
          refine V_icmp_ge X top_ (show (6 : Int32).toInt = 6 from by decide) 165 dX9_readOperand_78 (by decide) (fun c_78 => ?_) (fun c_78 => False.elim (by omega))
          refine V_aload_n X 1 rfl dX9_readOperand_165 ?_
          refine V_iconst (v := (1 : Int32)) X (by decide) dX9_readOperand_166 ?_
          refine V_put (C := RX9) (T := TX9) (N := 5) (ci := 8) (v := .int (1 : Int32)) (ty := tyX9 4) (ws' := [(lw, .inr (4, [.ref ws_, .ref ww, .ref wt, .ref wn, .ref wg, .ref wi, .int lz])), (ws_, .inl (Y 0, 128, .inl fs)), (ww, .inl (Y 0, 128, .inl fw)), (tp, .inr (8, [.ref tb, .int tl, .ref lw, .int pl, .int (1 : Int32)])), (tb, .inl (Y 0, 120, .inl fb))]) X in_X9_readOperand_X9 3 rfl rfl 4 (by decide) (List.mem_of_getElem? (i := 3) rfl) rfl tyX9 tyX9_ok nmX9 rfl (tyX9_ok 4 (by decide)) rfl rfl (Nat.le_of_ble_eq_true rfl) rfl dX9_readOperand_167 ?_
          refine V_ws (ws' := [(tp, .inr (8, [.ref tb, .int tl, .ref lw, .int pl, .int (1 : Int32)])), (tb, .inl (Y 0, 120, .inl fb)), (lw, .inr (4, [.ref ws_, .ref ww, .ref wt, .ref wn, .ref wg, .ref wi, .int lz])), (ws_, .inl (Y 0, 128, .inl fs)), (ww, .inl (Y 0, 128, .inl fw))]) [3, 4, 0, 1, 2] rfl rfl rfl ?_
          exact V_vret X hr dX9_readOperand_170 (Or.inr (⟨pos, t0, pl, (1 : Int32), lz, fs, fw, rfl, rfl, (by omega), (pOp_x hng hnn (Or.inl rfl)), (by omega), (Or.inl (by decide)), hLC⟩))
        · refine V_iload_n X 0 rfl dX9_readOperand_69 ?_
          refine V_bipush (v := (45 : Int32)) X (by decide) dX9_readOperand_70 ?_
          refine V_icmp_ne X rfl (show (45 : Int32).toInt = 45 from by decide) 165 dX9_readOperand_72 (by decide) (fun c_72 => ?_) (fun c_72 => ?_)
          · refine V_aload_n X 1 rfl dX9_readOperand_165 ?_
            refine V_iconst (v := (1 : Int32)) X (by decide) dX9_readOperand_166 ?_
            refine V_put (C := RX9) (T := TX9) (N := 5) (ci := 8) (v := .int (1 : Int32)) (ty := tyX9 4) (ws' := [(lw, .inr (4, [.ref ws_, .ref ww, .ref wt, .ref wn, .ref wg, .ref wi, .int lz])), (ws_, .inl (Y 0, 128, .inl fs)), (ww, .inl (Y 0, 128, .inl fw)), (tp, .inr (8, [.ref tb, .int tl, .ref lw, .int pl, .int (1 : Int32)])), (tb, .inl (Y 0, 120, .inl fb))]) X in_X9_readOperand_X9 3 rfl rfl 4 (by decide) (List.mem_of_getElem? (i := 3) rfl) rfl tyX9 tyX9_ok nmX9 rfl (tyX9_ok 4 (by decide)) rfl rfl (Nat.le_of_ble_eq_true rfl) rfl dX9_readOperand_167 ?_
            refine V_ws (ws' := [(tp, .inr (8, [.ref tb, .int tl, .ref lw, .int pl, .int (1 : Int32)])), (tb, .inl (Y 0, 120, .inl fb)), (lw, .inr (4, [.ref ws_, .ref ww, .ref wt, .ref wn, .ref wg, .ref wi, .int lz])), (ws_, .inl (Y 0, 128, .inl fs)), (ww, .inl (Y 0, 128, .inl fw))]) [3, 4, 0, 1, 2] rfl rfl rfl ?_
            exact V_vret X hr dX9_readOperand_170 (Or.inr (⟨pos, t0, pl, (1 : Int32), lz, fs, fw, rfl, rfl, (by omega), (pOp_x hng hnn (Or.inr (by unfold PK at hpe; omega))), (by omega), (Or.inl (by decide)), hLC⟩))
          · refine V_iload_n X 2 rfl dX9_readOperand_75 ?_
            refine V_bipush (v := (6 : Int32)) X (by decide) dX9_readOperand_76 ?_
            refine V_icmp_ge X top_ (show (6 : Int32).toInt = 6 from by decide) 165 dX9_readOperand_78 (by decide) (fun c_78 => ?_) (fun c_78 => False.elim (by omega))
            refine V_aload_n X 1 rfl dX9_readOperand_165 ?_
            refine V_iconst (v := (1 : Int32)) X (by decide) dX9_readOperand_166 ?_
            refine V_put (C := RX9) (T := TX9) (N := 5) (ci := 8) (v := .int (1 : Int32)) (ty := tyX9 4) (ws' := [(lw, .inr (4, [.ref ws_, .ref ww, .ref wt, .ref wn, .ref wg, .ref wi, .int lz])), (ws_, .inl (Y 0, 128, .inl fs)), (ww, .inl (Y 0, 128, .inl fw)), (tp, .inr (8, [.ref tb, .int tl, .ref lw, .int pl, .int (1 : Int32)])), (tb, .inl (Y 0, 120, .inl fb))]) X in_X9_readOperand_X9 3 rfl rfl 4 (by decide) (List.mem_of_getElem? (i := 3) rfl) rfl tyX9 tyX9_ok nmX9 rfl (tyX9_ok 4 (by decide)) rfl rfl (Nat.le_of_ble_eq_true rfl) rfl dX9_readOperand_167 ?_
            refine V_ws (ws' := [(tp, .inr (8, [.ref tb, .int tl, .ref lw, .int pl, .int (1 : Int32)])), (tb, .inl (Y 0, 120, .inl fb)), (lw, .inr (4, [.ref ws_, .ref ww, .ref wt, .ref wn, .ref wg, .ref wi, .int lz])), (ws_, .inl (Y 0, 128, .inl fs)), (ww, .inl (Y 0, 128, .inl fw))]) [3, 4, 0, 1, 2] rfl rfl rfl ?_
            exact V_vret X hr dX9_readOperand_170 (Or.inr (⟨pos, t0, pl, (1 : Int32), lz, fs, fw, rfl, rfl, (by omega), (pOp_x hng hnn (Or.inl rfl)), (by omega), (Or.inl (by decide)), hLC⟩))
    · have hnm : 0 ≤ nmC (c pos) := by rw [← nmC_PK hpe]; omega
      have hnb := nmC_big hnm
      have hqlt := CHR_lt hCH (show c pos ≠ -1 by omega)
      refine V_aload_n X 1 rfl dX9_readOperand_31 ?_
      refine V_dup X rfl dX9_readOperand_32 ?_
      refine V_get (C := RX9) (T := TX9) (N := 5) (ci := 8) (v := .int pl) X in_X9_readOperand_X9 3 rfl rfl 3 (by decide) (List.mem_of_getElem? (i := 1) rfl) rfl rfl dX9_readOperand_33 ?_
      refine V_iconst (v := (1 : Int32)) X (by decide) dX9_readOperand_36 ?_
      refine V_iaddZ X tpl (show (1 : Int32).toInt = 1 from by decide) (by omega) (by omega) dX9_readOperand_37 (fun x_8 ex_8 tx_8 => ?_)
      have tx_8 : x_8.toInt = (((pos + 1) : Nat) : Int) := by omega
      refine V_put (C := RX9) (T := TX9) (N := 5) (ci := 8) (v := .int x_8) (ty := tyX9 3) (ws' := [(lw, .inr (4, [.ref ws_, .ref ww, .ref wt, .ref wn, .ref wg, .ref wi, .int lz])), (ws_, .inl (Y 0, 128, .inl fs)), (ww, .inl (Y 0, 128, .inl fw)), (tp, .inr (8, [.ref tb, .int tl, .ref lw, .int x_8, .int fa])), (tb, .inl (Y 0, 120, .inl fb))]) X in_X9_readOperand_X9 3 rfl rfl 3 (by decide) (List.mem_of_getElem? (i := 1) rfl) rfl tyX9 tyX9_ok nmX9 rfl (tyX9_ok 3 (by decide)) rfl rfl (Nat.le_of_ble_eq_true rfl) rfl dX9_readOperand_38 ?_
      refine V_aload_n X 1 rfl dX9_readOperand_41 ?_
      refine V_get (C := RX9) (T := TX9) (N := 5) (ci := 8) (v := .ref lw) X in_X9_readOperand_X9 3 rfl rfl 2 (by decide) (List.mem_of_getElem? (i := 2) rfl) rfl rfl dX9_readOperand_42 ?_
      refine V_bipush (v := (97 : Int32)) X (by decide) dX9_readOperand_45 ?_
      refine V_iload_n X 0 rfl dX9_readOperand_47 ?_
      refine V_callS (wr := [(lw, .inr (4, [.ref ws_, .ref ww, .ref wt, .ref wn, .ref wg, .ref wi, .int lz])), (ws_, .inl (Y 0, 128, .inl fs)), (ww, .inl (Y 0, 128, .inl fw)), (tp, .inr (8, [.ref tb, .int tl, .ref lw, .int x_8, .int fa])), (tb, .inl (Y 0, 120, .inl fb))]) (st := [.int (97 : Int32), .ref lw]) X (c_X9_nameOf l D Y r_2) 1 gX9_readOperand_X9_nameOf rfl (by decide +kernel) ⟨rfl, rfl⟩ ⟨(by simp only [headSpec]; omega), (by simp only [headSpec]; omega)⟩ [] [0, 1, 2, 3, 4] rfl rfl rfl rfl (by decide) rfl rfl (Nat.le_of_ble_eq_true rfl) ⟨Nat.le_of_ble_eq_true rfl, Nat.le_of_ble_eq_true rfl⟩ dX9_readOperand_48 (fun v_48 w_48 h_48 => ?_)
      obtain ⟨r_10, rfl, rfl, htr_11⟩ := h_48
      refine V_to (pc' := 51) (ls' := [(2, .int r_2), (0, .ref tp), (1, .int op_)]) (st' := [.int r_10, .int (97 : Int32), .ref lw]) (ws' := [(lw, .inr (4, [.ref ws_, .ref ww, .ref wt, .ref wn, .ref wg, .ref wi, .int lz])), (ws_, .inl (Y 0, 128, .inl fs)), (ww, .inl (Y 0, 128, .inl fw)), (tp, .inr (8, [.ref tb, .int tl, .ref lw, .int x_8, .int fa])), (tb, .inl (Y 0, 120, .inl fb))]) ?_ rfl rfl rfl rfl
      refine V_callV (C := RX5) (wr := [(tp, .inr (8, [.ref tb, .int tl, .ref lw, .int x_8, .int fa])), (tb, .inl (Y 0, 120, .inl fb))]) (st := []) X (c_X5_addT l D Y lw ws_ ww wt wn wg wi lz fs fw t0 (97 : Int32) r_10 hLC) 2 gX9_readOperand_X5_add rfl (by decide +kernel) ⟨rfl, rfl⟩ ⟨(by simp only [headSpec]; omega), (by simp only [headSpec]; omega)⟩ [0, 1, 2] [3, 4] rfl rfl rfl rfl (by decide) (ci := 4) rfl rfl 0 rfl rfl rfl (Nat.le_of_ble_eq_true rfl) ⟨Nat.le_of_ble_eq_true rfl, Nat.le_of_ble_eq_true rfl⟩ dX9_readOperand_51 (fun v_51 w_51 h_51 => ?_)
      obtain ⟨lz2_13, fs2_14, fw2_15, t_a, rfl, rfl, hLa, hta⟩ := h_51
      refine V_to (pc' := 54) (ls' := [(2, .int r_2), (0, .ref tp), (1, .int op_)]) (st' := []) (ws' := [(tp, .inr (8, [.ref tb, .int tl, .ref lw, .int x_8, .int fa])), (tb, .inl (Y 0, 120, .inl fb)), (lw, .inr (4, [.ref ws_, .ref ww, .ref wt, .ref wn, .ref wg, .ref wi, .int lz2_13])), (ws_, .inl (Y 0, 128, .inl fs2_14)), (ww, .inl (Y 0, 128, .inl fw2_15))]) ?_ rfl rfl rfl rfl
      have hc_97 : (97 : Int32).toInt = 97 := by decide
      have hta9 : t_a = t0 ++ [(97, nmC (c pos))] := by have h9 := hta (by omega); rw [show (97 : Int32).toInt = 97 from by decide, htr_11, nmC_PK hpe] at h9; exact h9
      refine V_goto X 170 (by decide) dX9_readOperand_54 ?_
      exact V_vret X hr dX9_readOperand_170 (Or.inl ⟨(pos + 1), [(97, nmC (c pos))], x_8, lz2_13, fs2_14, fw2_15, rfl, rfl, (by omega), (pOp_n hng hnm), ⟨Nat.le_refl _, by omega⟩, (hta9 ▸ hLa)⟩)
  · refine V_iload_n X 0 rfl dX9_readOperand_11 ?_
    refine V_bipush (v := (57 : Int32)) X (by decide) dX9_readOperand_12 ?_
    refine V_icmp_gt X rfl (show (57 : Int32).toInt = 57 from by decide) 24 dX9_readOperand_14 (by decide) (fun c_14 => ?_) (fun c_14 => ?_)
    · have hng : ¬ (48 ≤ c pos ∧ c pos ≤ 57) := by unfold PK at hpe; omega
      refine V_iload_n X 0 rfl dX9_readOperand_24 ?_
      refine V_callS (wr := [(lw, .inr (4, [.ref ws_, .ref ww, .ref wt, .ref wn, .ref wg, .ref wi, .int lz])), (ws_, .inl (Y 0, 128, .inl fs)), (ww, .inl (Y 0, 128, .inl fw)), (tp, .inr (8, [.ref tb, .int tl, .ref lw, .int pl, .int fa])), (tb, .inl (Y 0, 120, .inl fb))]) (st := []) X (c_X9_nameOf l D Y r_2) 1 gX9_readOperand_X9_nameOf rfl (by decide +kernel) ⟨rfl, rfl⟩ ⟨(by simp only [headSpec]; omega), (by simp only [headSpec]; omega)⟩ [] [0, 1, 2, 3, 4] rfl rfl rfl rfl (by decide) rfl rfl (Nat.le_of_ble_eq_true rfl) ⟨Nat.le_of_ble_eq_true rfl, Nat.le_of_ble_eq_true rfl⟩ dX9_readOperand_25 (fun v_25 w_25 h_25 => ?_)
      obtain ⟨r_20, rfl, rfl, htr_21⟩ := h_25
      refine V_to (pc' := 28) (ls' := [(2, .int r_2), (0, .ref tp), (1, .int op_)]) (st' := [.int r_20]) (ws' := [(lw, .inr (4, [.ref ws_, .ref ww, .ref wt, .ref wn, .ref wg, .ref wi, .int lz])), (ws_, .inl (Y 0, 128, .inl fs)), (ww, .inl (Y 0, 128, .inl fw)), (tp, .inr (8, [.ref tb, .int tl, .ref lw, .int pl, .int fa])), (tb, .inl (Y 0, 120, .inl fb))]) ?_ rfl rfl rfl rfl
      refine V_if_lt X htr_21 57 dX9_readOperand_28 (by decide) (fun c_28 => ?_) (fun c_28 => ?_)
      · have hnn : nmC (c pos) < 0 := by rw [← nmC_PK hpe]; omega
        refine V_iload_n X 0 rfl dX9_readOperand_57 ?_
        refine V_bipush (v := (40 : Int32)) X (by decide) dX9_readOperand_58 ?_
        refine V_icmp_eq X rfl (show (40 : Int32).toInt = 40 from by decide) 75 dX9_readOperand_60 (by decide) (fun c_60 => ?_) (fun c_60 => ?_)
        · refine V_iload_n X 2 rfl dX9_readOperand_75 ?_
          refine V_bipush (v := (6 : Int32)) X (by decide) dX9_readOperand_76 ?_
          refine V_icmp_ge X top_ (show (6 : Int32).toInt = 6 from by decide) 165 dX9_readOperand_78 (by decide) (fun c_78 => ?_) (fun c_78 => False.elim (by omega))
          refine V_aload_n X 1 rfl dX9_readOperand_165 ?_
          refine V_iconst (v := (1 : Int32)) X (by decide) dX9_readOperand_166 ?_
          refine V_put (C := RX9) (T := TX9) (N := 5) (ci := 8) (v := .int (1 : Int32)) (ty := tyX9 4) (ws' := [(lw, .inr (4, [.ref ws_, .ref ww, .ref wt, .ref wn, .ref wg, .ref wi, .int lz])), (ws_, .inl (Y 0, 128, .inl fs)), (ww, .inl (Y 0, 128, .inl fw)), (tp, .inr (8, [.ref tb, .int tl, .ref lw, .int pl, .int (1 : Int32)])), (tb, .inl (Y 0, 120, .inl fb))]) X in_X9_readOperand_X9 3 rfl rfl 4 (by decide) (List.mem_of_getElem? (i := 3) rfl) rfl tyX9 tyX9_ok nmX9 rfl (tyX9_ok 4 (by decide)) rfl rfl (Nat.le_of_ble_eq_true rfl) rfl dX9_readOperand_167 ?_
          refine V_ws (ws' := [(tp, .inr (8, [.ref tb, .int tl, .ref lw, .int pl, .int (1 : Int32)])), (tb, .inl (Y 0, 120, .inl fb)), (lw, .inr (4, [.ref ws_, .ref ww, .ref wt, .ref wn, .ref wg, .ref wi, .int lz])), (ws_, .inl (Y 0, 128, .inl fs)), (ww, .inl (Y 0, 128, .inl fw))]) [3, 4, 0, 1, 2] rfl rfl rfl ?_
          exact V_vret X hr dX9_readOperand_170 (Or.inr (⟨pos, t0, pl, (1 : Int32), lz, fs, fw, rfl, rfl, (by omega), (pOp_x hng hnn (Or.inl rfl)), (by omega), (Or.inl (by decide)), hLC⟩))
        · refine V_iload_n X 0 rfl dX9_readOperand_63 ?_
          refine V_bipush (v := (33 : Int32)) X (by decide) dX9_readOperand_64 ?_
          refine V_icmp_eq X rfl (show (33 : Int32).toInt = 33 from by decide) 75 dX9_readOperand_66 (by decide) (fun c_66 => ?_) (fun c_66 => ?_)
          · refine V_iload_n X 2 rfl dX9_readOperand_75 ?_
            refine V_bipush (v := (6 : Int32)) X (by decide) dX9_readOperand_76 ?_
            refine V_icmp_ge X top_ (show (6 : Int32).toInt = 6 from by decide) 165 dX9_readOperand_78 (by decide) (fun c_78 => ?_) (fun c_78 => False.elim (by omega))
            refine V_aload_n X 1 rfl dX9_readOperand_165 ?_
            refine V_iconst (v := (1 : Int32)) X (by decide) dX9_readOperand_166 ?_
            refine V_put (C := RX9) (T := TX9) (N := 5) (ci := 8) (v := .int (1 : Int32)) (ty := tyX9 4) (ws' := [(lw, .inr (4, [.ref ws_, .ref ww, .ref wt, .ref wn, .ref wg, .ref wi, .int lz])), (ws_, .inl (Y 0, 128, .inl fs)), (ww, .inl (Y 0, 128, .inl fw)), (tp, .inr (8, [.ref tb, .int tl, .ref lw, .int pl, .int (1 : Int32)])), (tb, .inl (Y 0, 120, .inl fb))]) X in_X9_readOperand_X9 3 rfl rfl 4 (by decide) (List.mem_of_getElem? (i := 3) rfl) rfl tyX9 tyX9_ok nmX9 rfl (tyX9_ok 4 (by decide)) rfl rfl (Nat.le_of_ble_eq_true rfl) rfl dX9_readOperand_167 ?_
            refine V_ws (ws' := [(tp, .inr (8, [.ref tb, .int tl, .ref lw, .int pl, .int (1 : Int32)])), (tb, .inl (Y 0, 120, .inl fb)), (lw, .inr (4, [.ref ws_, .ref ww, .ref wt, .ref wn, .ref wg, .ref wi, .int lz])), (ws_, .inl (Y 0, 128, .inl fs)), (ww, .inl (Y 0, 128, .inl fw))]) [3, 4, 0, 1, 2] rfl rfl rfl ?_
            exact V_vret X hr dX9_readOperand_170 (Or.inr (⟨pos, t0, pl, (1 : Int32), lz, fs, fw, rfl, rfl, (by omega), (pOp_x hng hnn (Or.inl rfl)), (by omega), (Or.inl (by decide)), hLC⟩))
          · refine V_iload_n X 0 rfl dX9_readOperand_69 ?_
            refine V_bipush (v := (45 : Int32)) X (by decide) dX9_readOperand_70 ?_
            refine V_icmp_ne X rfl (show (45 : Int32).toInt = 45 from by decide) 165 dX9_readOperand_72 (by decide) (fun c_72 => ?_) (fun c_72 => ?_)
            · refine V_aload_n X 1 rfl dX9_readOperand_165 ?_
              refine V_iconst (v := (1 : Int32)) X (by decide) dX9_readOperand_166 ?_
              refine V_put (C := RX9) (T := TX9) (N := 5) (ci := 8) (v := .int (1 : Int32)) (ty := tyX9 4) (ws' := [(lw, .inr (4, [.ref ws_, .ref ww, .ref wt, .ref wn, .ref wg, .ref wi, .int lz])), (ws_, .inl (Y 0, 128, .inl fs)), (ww, .inl (Y 0, 128, .inl fw)), (tp, .inr (8, [.ref tb, .int tl, .ref lw, .int pl, .int (1 : Int32)])), (tb, .inl (Y 0, 120, .inl fb))]) X in_X9_readOperand_X9 3 rfl rfl 4 (by decide) (List.mem_of_getElem? (i := 3) rfl) rfl tyX9 tyX9_ok nmX9 rfl (tyX9_ok 4 (by decide)) rfl rfl (Nat.le_of_ble_eq_true rfl) rfl dX9_readOperand_167 ?_
              refine V_ws (ws' := [(tp, .inr (8, [.ref tb, .int tl, .ref lw, .int pl, .int (1 : Int32)])), (tb, .inl (Y 0, 120, .inl fb)), (lw, .inr (4, [.ref ws_, .ref ww, .ref wt, .ref wn, .ref wg, .ref wi, .int lz])), (ws_, .inl (Y 0, 128, .inl fs)), (ww, .inl (Y 0, 128, .inl fw))]) [3, 4, 0, 1, 2] rfl rfl rfl ?_
              exact V_vret X hr dX9_readOperand_170 (Or.inr (⟨pos, t0, pl, (1 : Int32), lz, fs, fw, rfl, rfl, (by omega), (pOp_x hng hnn (Or.inr (by unfold PK at hpe; omega))), (by omega), (Or.inl (by decide)), hLC⟩))
            · refine V_iload_n X 2 rfl dX9_readOperand_75 ?_
              refine V_bipush (v := (6 : Int32)) X (by decide) dX9_readOperand_76 ?_
              refine V_icmp_ge X top_ (show (6 : Int32).toInt = 6 from by decide) 165 dX9_readOperand_78 (by decide) (fun c_78 => ?_) (fun c_78 => False.elim (by omega))
              refine V_aload_n X 1 rfl dX9_readOperand_165 ?_
              refine V_iconst (v := (1 : Int32)) X (by decide) dX9_readOperand_166 ?_
              refine V_put (C := RX9) (T := TX9) (N := 5) (ci := 8) (v := .int (1 : Int32)) (ty := tyX9 4) (ws' := [(lw, .inr (4, [.ref ws_, .ref ww, .ref wt, .ref wn, .ref wg, .ref wi, .int lz])), (ws_, .inl (Y 0, 128, .inl fs)), (ww, .inl (Y 0, 128, .inl fw)), (tp, .inr (8, [.ref tb, .int tl, .ref lw, .int pl, .int (1 : Int32)])), (tb, .inl (Y 0, 120, .inl fb))]) X in_X9_readOperand_X9 3 rfl rfl 4 (by decide) (List.mem_of_getElem? (i := 3) rfl) rfl tyX9 tyX9_ok nmX9 rfl (tyX9_ok 4 (by decide)) rfl rfl (Nat.le_of_ble_eq_true rfl) rfl dX9_readOperand_167 ?_
              refine V_ws (ws' := [(tp, .inr (8, [.ref tb, .int tl, .ref lw, .int pl, .int (1 : Int32)])), (tb, .inl (Y 0, 120, .inl fb)), (lw, .inr (4, [.ref ws_, .ref ww, .ref wt, .ref wn, .ref wg, .ref wi, .int lz])), (ws_, .inl (Y 0, 128, .inl fs)), (ww, .inl (Y 0, 128, .inl fw))]) [3, 4, 0, 1, 2] rfl rfl rfl ?_
              exact V_vret X hr dX9_readOperand_170 (Or.inr (⟨pos, t0, pl, (1 : Int32), lz, fs, fw, rfl, rfl, (by omega), (pOp_x hng hnn (Or.inl rfl)), (by omega), (Or.inl (by decide)), hLC⟩))
      · have hnm : 0 ≤ nmC (c pos) := by rw [← nmC_PK hpe]; omega
        have hnb := nmC_big hnm
        have hqlt := CHR_lt hCH (show c pos ≠ -1 by omega)
        refine V_aload_n X 1 rfl dX9_readOperand_31 ?_
        refine V_dup X rfl dX9_readOperand_32 ?_
        refine V_get (C := RX9) (T := TX9) (N := 5) (ci := 8) (v := .int pl) X in_X9_readOperand_X9 3 rfl rfl 3 (by decide) (List.mem_of_getElem? (i := 1) rfl) rfl rfl dX9_readOperand_33 ?_
        refine V_iconst (v := (1 : Int32)) X (by decide) dX9_readOperand_36 ?_
        refine V_iaddZ X tpl (show (1 : Int32).toInt = 1 from by decide) (by omega) (by omega) dX9_readOperand_37 (fun x_22 ex_22 tx_22 => ?_)
        have tx_22 : x_22.toInt = (((pos + 1) : Nat) : Int) := by omega
        refine V_put (C := RX9) (T := TX9) (N := 5) (ci := 8) (v := .int x_22) (ty := tyX9 3) (ws' := [(lw, .inr (4, [.ref ws_, .ref ww, .ref wt, .ref wn, .ref wg, .ref wi, .int lz])), (ws_, .inl (Y 0, 128, .inl fs)), (ww, .inl (Y 0, 128, .inl fw)), (tp, .inr (8, [.ref tb, .int tl, .ref lw, .int x_22, .int fa])), (tb, .inl (Y 0, 120, .inl fb))]) X in_X9_readOperand_X9 3 rfl rfl 3 (by decide) (List.mem_of_getElem? (i := 1) rfl) rfl tyX9 tyX9_ok nmX9 rfl (tyX9_ok 3 (by decide)) rfl rfl (Nat.le_of_ble_eq_true rfl) rfl dX9_readOperand_38 ?_
        refine V_aload_n X 1 rfl dX9_readOperand_41 ?_
        refine V_get (C := RX9) (T := TX9) (N := 5) (ci := 8) (v := .ref lw) X in_X9_readOperand_X9 3 rfl rfl 2 (by decide) (List.mem_of_getElem? (i := 2) rfl) rfl rfl dX9_readOperand_42 ?_
        refine V_bipush (v := (97 : Int32)) X (by decide) dX9_readOperand_45 ?_
        refine V_iload_n X 0 rfl dX9_readOperand_47 ?_
        refine V_callS (wr := [(lw, .inr (4, [.ref ws_, .ref ww, .ref wt, .ref wn, .ref wg, .ref wi, .int lz])), (ws_, .inl (Y 0, 128, .inl fs)), (ww, .inl (Y 0, 128, .inl fw)), (tp, .inr (8, [.ref tb, .int tl, .ref lw, .int x_22, .int fa])), (tb, .inl (Y 0, 120, .inl fb))]) (st := [.int (97 : Int32), .ref lw]) X (c_X9_nameOf l D Y r_2) 1 gX9_readOperand_X9_nameOf rfl (by decide +kernel) ⟨rfl, rfl⟩ ⟨(by simp only [headSpec]; omega), (by simp only [headSpec]; omega)⟩ [] [0, 1, 2, 3, 4] rfl rfl rfl rfl (by decide) rfl rfl (Nat.le_of_ble_eq_true rfl) ⟨Nat.le_of_ble_eq_true rfl, Nat.le_of_ble_eq_true rfl⟩ dX9_readOperand_48 (fun v_48 w_48 h_48 => ?_)
        obtain ⟨r_24, rfl, rfl, htr_25⟩ := h_48
        refine V_to (pc' := 51) (ls' := [(2, .int r_2), (0, .ref tp), (1, .int op_)]) (st' := [.int r_24, .int (97 : Int32), .ref lw]) (ws' := [(lw, .inr (4, [.ref ws_, .ref ww, .ref wt, .ref wn, .ref wg, .ref wi, .int lz])), (ws_, .inl (Y 0, 128, .inl fs)), (ww, .inl (Y 0, 128, .inl fw)), (tp, .inr (8, [.ref tb, .int tl, .ref lw, .int x_22, .int fa])), (tb, .inl (Y 0, 120, .inl fb))]) ?_ rfl rfl rfl rfl
        refine V_callV (C := RX5) (wr := [(tp, .inr (8, [.ref tb, .int tl, .ref lw, .int x_22, .int fa])), (tb, .inl (Y 0, 120, .inl fb))]) (st := []) X (c_X5_addT l D Y lw ws_ ww wt wn wg wi lz fs fw t0 (97 : Int32) r_24 hLC) 2 gX9_readOperand_X5_add rfl (by decide +kernel) ⟨rfl, rfl⟩ ⟨(by simp only [headSpec]; omega), (by simp only [headSpec]; omega)⟩ [0, 1, 2] [3, 4] rfl rfl rfl rfl (by decide) (ci := 4) rfl rfl 0 rfl rfl rfl (Nat.le_of_ble_eq_true rfl) ⟨Nat.le_of_ble_eq_true rfl, Nat.le_of_ble_eq_true rfl⟩ dX9_readOperand_51 (fun v_51 w_51 h_51 => ?_)
        obtain ⟨lz2_27, fs2_28, fw2_29, t_a, rfl, rfl, hLa, hta⟩ := h_51
        refine V_to (pc' := 54) (ls' := [(2, .int r_2), (0, .ref tp), (1, .int op_)]) (st' := []) (ws' := [(tp, .inr (8, [.ref tb, .int tl, .ref lw, .int x_22, .int fa])), (tb, .inl (Y 0, 120, .inl fb)), (lw, .inr (4, [.ref ws_, .ref ww, .ref wt, .ref wn, .ref wg, .ref wi, .int lz2_27])), (ws_, .inl (Y 0, 128, .inl fs2_28)), (ww, .inl (Y 0, 128, .inl fw2_29))]) ?_ rfl rfl rfl rfl
        have hc_97 : (97 : Int32).toInt = 97 := by decide
        have hta9 : t_a = t0 ++ [(97, nmC (c pos))] := by have h9 := hta (by omega); rw [show (97 : Int32).toInt = 97 from by decide, htr_25, nmC_PK hpe] at h9; exact h9
        refine V_goto X 170 (by decide) dX9_readOperand_54 ?_
        exact V_vret X hr dX9_readOperand_170 (Or.inl ⟨(pos + 1), [(97, nmC (c pos))], x_22, lz2_27, fs2_28, fw2_29, rfl, rfl, (by omega), (pOp_n hng hnm), ⟨Nat.le_refl _, by omega⟩, (hta9 ▸ hLa)⟩)
    · have hdg : 48 ≤ c pos ∧ c pos ≤ 57 := by unfold PK at hpe; omega
      refine V_aload_n X 1 rfl dX9_readOperand_17 ?_
      refine V_callV (C := RX9) (wr := []) (st := []) X (c_X9_readNumber l D Y tp tb lw tl pl fa pos L c ws_ ww wt wn wg wi lz fs fw t0 fb ttl hL tpl hpL hCH hLC hfa htp hdg) 0 gX9_readOperand_X9_readNumber rfl (by decide +kernel) ⟨rfl, rfl⟩ ⟨(by simp only [headSpec]; omega), (by simp only [headSpec]; omega)⟩ [3, 4, 0, 1, 2] [] rfl rfl rfl rfl (by decide) (ci := 8) rfl rfl 0 rfl rfl rfl (Nat.le_of_ble_eq_true rfl) ⟨Nat.le_of_ble_eq_true rfl, Nat.le_of_ble_eq_true rfl⟩ dX9_readOperand_18 (fun v_18 w_18 h_18 => ?_)
      obtain ⟨q_n, pl2_35, lz2_36, fs2_37, fw2_38, rfl, rfl, tpln, hqn, hqbn, hLn⟩ := h_18
      refine V_to (pc' := 21) (ls' := [(2, .int r_2), (0, .ref tp), (1, .int op_)]) (st' := []) (ws' := [(tp, .inr (8, [.ref tb, .int tl, .ref lw, .int pl2_35, .int fa])), (tb, .inl (Y 0, 120, .inl fb)), (lw, .inr (4, [.ref ws_, .ref ww, .ref wt, .ref wn, .ref wg, .ref wi, .int lz2_36])), (ws_, .inl (Y 0, 128, .inl fs2_37)), (ww, .inl (Y 0, 128, .inl fw2_38))]) ?_ rfl rfl rfl rfl
      by_cases h5 : 48 ≤ c q_n ∧ c q_n ≤ 57
      · refine V_goto X 170 (by decide) dX9_readOperand_21 ?_
        exact V_vret X hr dX9_readOperand_170 (Or.inr (⟨q_n, (t0 ++ [(48, (pDg c 4 pos 0).2)]), pl2_35, fa, lz2_36, fs2_37, fw2_38, rfl, rfl, (by omega), ((pOp_d hdg).trans (pFig_y hqn h5)), (by omega), (Or.inr h5), hLn⟩))
      · refine V_goto X 170 (by decide) dX9_readOperand_21 ?_
        exact V_vret X hr dX9_readOperand_170 (Or.inl ⟨q_n, [(48, (pDg c 4 pos 0).2)], pl2_35, lz2_36, fs2_37, fw2_38, rfl, rfl, (by omega), ((pOp_d hdg).trans (pFig_n hqn h5)), hqbn, hLn⟩)

set_option maxHeartbeats 4000000 in
set_option maxRecDepth 100000 in
theorem c_X9_readOperand_s (l : Launch) (D : va_G) (Y : Nat → ClassId) (tp : Nat) (tb : Nat) (lw : Nat) (tl : Int32) (pl : Int32) (fa : Int32) (pos : Nat) (L : Nat) (c : Nat → Int) (ws_ : Nat) (ww : Nat) (wt : Nat) (wn : Nat) (wg : Nat) (wi : Nat) (lz : Int32) (fs : Nat → Int32) (fw : Nat → Int32) (t0 : List Tok) (fb : Nat → Int32) (k : Nat) (op_ : Int32) (opn : Nat) (ttl : tl.toInt = ((L : Nat) : Int)) (hL : L ≤ 120) (tpl : pl.toInt = ((pos : Nat) : Int)) (hpL : pos ≤ L) (hCH : CHR fb L c) (hLC : LC fs fw lz t0) (hfa : fa.toInt = 0) (htp : t0.length ≤ pos) (top_ : op_.toInt = ((opn : Nat) : Int)) (hok : opn + (k + 1) = 6) (ihO : ∀ (l : Launch) (D : va_G) (Y : Nat → ClassId) (tp : Nat) (tb : Nat) (lw : Nat) (tl : Int32) (pl : Int32) (fa : Int32) (pos : Nat) (L : Nat) (c : Nat → Int) (ws_ : Nat) (ww : Nat) (wt : Nat) (wn : Nat) (wg : Nat) (wi : Nat) (lz : Int32) (fs : Nat → Int32) (fw : Nat → Int32) (t0 : List Tok) (fb : Nat → Int32) (op_ : Int32) (opn : Nat) (ttl : tl.toInt = ((L : Nat) : Int)) (hL : L ≤ 120) (tpl : pl.toInt = ((pos : Nat) : Int)) (hpL : pos ≤ L) (hCH : CHR fb L c) (hLC : LC fs fw lz t0) (hfa : fa.toInt = 0) (htp : t0.length ≤ pos) (top_ : op_.toInt = ((opn : Nat) : Int)) (hok : opn + k = 6), Mg l yX9_readOperand wsX9_readOperand ({ frames := 7 * (k) + 8, cells := 0, slots := 0, locals := 250 * (k) + 400 }) D Y [(tp, .inr (8, [.ref tb, .int tl, .ref lw, .int pl, .int fa])), (tb, .inl (Y 0, 120, .inl fb)), (lw, .inr (4, [.ref ws_, .ref ww, .ref wt, .ref wn, .ref wg, .ref wi, .int lz])), (ws_, .inl (Y 0, 128, .inl fs)), (ww, .inl (Y 0, 128, .inl fw))] [.ref tp, .int op_] 0 0 (fun vv__ ww__ => (∃ (q : Nat), ∃ (ts : List Tok), ∃ (pl2 : Int32), ∃ (lz2 : Int32), ∃ (fs2 : Nat → Int32), ∃ (fw2 : Nat → Int32), vv__ = none ∧ ww__ = [(tp, .inr (8, [.ref tb, .int tl, .ref lw, .int pl2, .int fa])), (tb, .inl (Y 0, 120, .inl fb)), (lw, .inr (4, [.ref ws_, .ref ww, .ref wt, .ref wn, .ref wg, .ref wi, .int lz2])), (ws_, .inl (Y 0, 128, .inl fs2)), (ww, .inl (Y 0, 128, .inl fw2))] ∧ (pl2.toInt = ((q : Nat) : Int)) ∧ (pOp c k pos = (q, some ts)) ∧ (pos + ts.length ≤ q ∧ q ≤ L) ∧ (LC fs2 fw2 lz2 (t0 ++ ts))) ∨ (∃ (q : Nat), ∃ (t1 : List Tok), ∃ (pl2 : Int32), ∃ (fa2 : Int32), ∃ (lz2 : Int32), ∃ (fs2 : Nat → Int32), ∃ (fw2 : Nat → Int32), vv__ = none ∧ ww__ = [(tp, .inr (8, [.ref tb, .int tl, .ref lw, .int pl2, .int fa2])), (tb, .inl (Y 0, 120, .inl fb)), (lw, .inr (4, [.ref ws_, .ref ww, .ref wt, .ref wn, .ref wg, .ref wi, .int lz2])), (ws_, .inl (Y 0, 128, .inl fs2)), (ww, .inl (Y 0, 128, .inl fw2))] ∧ (pl2.toInt = ((q : Nat) : Int)) ∧ (pOp c k pos = (q, none)) ∧ (q ≤ L) ∧ (fa2.toInt ≠ 0 ∨ (48 ≤ c q ∧ c q ≤ 57)) ∧ (LC fs2 fw2 lz2 t1)))) (ihT : ∀ (l : Launch) (D : va_G) (Y : Nat → ClassId) (tp : Nat) (tb : Nat) (lw : Nat) (tl : Int32) (pl : Int32) (fa : Int32) (pos : Nat) (L : Nat) (c : Nat → Int) (ws_ : Nat) (ww : Nat) (wt : Nat) (wn : Nat) (wg : Nat) (wi : Nat) (lz : Int32) (fs : Nat → Int32) (fw : Nat → Int32) (t0 : List Tok) (fb : Nat → Int32) (lv_ : Int32) (lev : Nat) (op_ : Int32) (opn : Nat) (ttl : tl.toInt = ((L : Nat) : Int)) (hL : L ≤ 120) (tpl : pl.toInt = ((pos : Nat) : Int)) (hpL : pos ≤ L) (hCH : CHR fb L c) (hLC : LC fs fw lz t0) (hfa : fa.toInt = 0) (htp : t0.length ≤ pos) (top_ : op_.toInt = ((opn : Nat) : Int)) (hok : opn + k = 6) (tlv_ : lv_.toInt = ((lev : Nat) : Int)) (hlj : lev + 5 = 5), Mg l yX9_readTerms wsX9_readTerms ({ frames := 7 * (k) + 9 + (5), cells := 0, slots := 0, locals := 250 * (k) + 430 + 30 * (5) }) D Y [(tp, .inr (8, [.ref tb, .int tl, .ref lw, .int pl, .int fa])), (tb, .inl (Y 0, 120, .inl fb)), (lw, .inr (4, [.ref ws_, .ref ww, .ref wt, .ref wn, .ref wg, .ref wi, .int lz])), (ws_, .inl (Y 0, 128, .inl fs)), (ww, .inl (Y 0, 128, .inl fw))] [.ref tp, .int lv_, .int op_] 0 0 (fun vv__ ww__ => (∃ (q : Nat), ∃ (ts : List Tok), ∃ (pl2 : Int32), ∃ (lz2 : Int32), ∃ (fs2 : Nat → Int32), ∃ (fw2 : Nat → Int32), vv__ = none ∧ ww__ = [(tp, .inr (8, [.ref tb, .int tl, .ref lw, .int pl2, .int fa])), (tb, .inl (Y 0, 120, .inl fb)), (lw, .inr (4, [.ref ws_, .ref ww, .ref wt, .ref wn, .ref wg, .ref wi, .int lz2])), (ws_, .inl (Y 0, 128, .inl fs2)), (ww, .inl (Y 0, 128, .inl fw2))] ∧ (pl2.toInt = ((q : Nat) : Int)) ∧ (pTm c (pOp c k) 5 pos = (q, some ts)) ∧ (pos + ts.length ≤ q ∧ q ≤ L) ∧ (LC fs2 fw2 lz2 (t0 ++ ts))) ∨ (∃ (q : Nat), ∃ (t1 : List Tok), ∃ (pl2 : Int32), ∃ (fa2 : Int32), ∃ (lz2 : Int32), ∃ (fs2 : Nat → Int32), ∃ (fw2 : Nat → Int32), vv__ = none ∧ ww__ = [(tp, .inr (8, [.ref tb, .int tl, .ref lw, .int pl2, .int fa2])), (tb, .inl (Y 0, 120, .inl fb)), (lw, .inr (4, [.ref ws_, .ref ww, .ref wt, .ref wn, .ref wg, .ref wi, .int lz2])), (ws_, .inl (Y 0, 128, .inl fs2)), (ww, .inl (Y 0, 128, .inl fw2))] ∧ (pl2.toInt = ((q : Nat) : Int)) ∧ (pTm c (pOp c k) 5 pos = (q, none)) ∧ (q ≤ L) ∧ (fa2.toInt ≠ 0 ∨ (48 ≤ c q ∧ c q ≤ 57)) ∧ (LC fs2 fw2 lz2 t1)))) : Mg l yX9_readOperand wsX9_readOperand ({ frames := 7 * ((k + 1)) + 8, cells := 0, slots := 0, locals := 250 * ((k + 1)) + 400 }) D Y [(tp, .inr (8, [.ref tb, .int tl, .ref lw, .int pl, .int fa])), (tb, .inl (Y 0, 120, .inl fb)), (lw, .inr (4, [.ref ws_, .ref ww, .ref wt, .ref wn, .ref wg, .ref wi, .int lz])), (ws_, .inl (Y 0, 128, .inl fs)), (ww, .inl (Y 0, 128, .inl fw))] [.ref tp, .int op_] 0 0 (fun vv__ ww__ => (∃ (q : Nat), ∃ (ts : List Tok), ∃ (pl2 : Int32), ∃ (lz2 : Int32), ∃ (fs2 : Nat → Int32), ∃ (fw2 : Nat → Int32), vv__ = none ∧ ww__ = [(tp, .inr (8, [.ref tb, .int tl, .ref lw, .int pl2, .int fa])), (tb, .inl (Y 0, 120, .inl fb)), (lw, .inr (4, [.ref ws_, .ref ww, .ref wt, .ref wn, .ref wg, .ref wi, .int lz2])), (ws_, .inl (Y 0, 128, .inl fs2)), (ww, .inl (Y 0, 128, .inl fw2))] ∧ (pl2.toInt = ((q : Nat) : Int)) ∧ (pOp c (k + 1) pos = (q, some ts)) ∧ (pos + ts.length ≤ q ∧ q ≤ L) ∧ (LC fs2 fw2 lz2 (t0 ++ ts))) ∨ (∃ (q : Nat), ∃ (t1 : List Tok), ∃ (pl2 : Int32), ∃ (fa2 : Int32), ∃ (lz2 : Int32), ∃ (fs2 : Nat → Int32), ∃ (fw2 : Nat → Int32), vv__ = none ∧ ww__ = [(tp, .inr (8, [.ref tb, .int tl, .ref lw, .int pl2, .int fa2])), (tb, .inl (Y 0, 120, .inl fb)), (lw, .inr (4, [.ref ws_, .ref ww, .ref wt, .ref wn, .ref wg, .ref wi, .int lz2])), (ws_, .inl (Y 0, 128, .inl fs2)), (ww, .inl (Y 0, 128, .inl fw2))] ∧ (pl2.toInt = ((q : Nat) : Int)) ∧ (pOp c (k + 1) pos = (q, none)) ∧ (q ≤ L) ∧ (fa2.toInt ≠ 0 ∨ (48 ≤ c q ∧ c q ≤ 57)) ∧ (LC fs2 fw2 lz2 t1))) := by
  refine Mg_of (cc := cX9_readOperand) (maxL := 3) (ret := none) (ls0 := [(0, .ref tp), (1, .int op_)]) RX9 (by decide) rfl rfl rfl (Nat.le_of_ble_eq_true rfl) (fun p__ e__ s__ m__ b__ t__ c__ X hr hn => ?_)
  refine V_aload_n X 0 rfl dX9_readOperand_0 ?_
  refine V_callV (C := RX9) (wr := [(lw, .inr (4, [.ref ws_, .ref ww, .ref wt, .ref wn, .ref wg, .ref wi, .int lz])), (ws_, .inl (Y 0, 128, .inl fs)), (ww, .inl (Y 0, 128, .inl fw))]) (st := []) X (c_X9_peek l D Y tp tb lw tl pl fa pos L c fb ttl hL tpl hpL hCH) 0 gX9_readOperand_X9_peek rfl (by decide +kernel) ⟨rfl, rfl⟩ ⟨(by simp only [headSpec]; omega), (by simp only [headSpec]; omega)⟩ [0, 1] [2, 3, 4] rfl rfl rfl rfl (by decide) (ci := 8) rfl rfl 0 rfl rfl rfl (Nat.le_of_ble_eq_true rfl) ⟨Nat.le_of_ble_eq_true rfl, Nat.le_of_ble_eq_true rfl⟩ dX9_readOperand_1 (fun v_1 w_1 h_1 => ?_)
  obtain ⟨r_2, rfl, rfl, hhpk_3, hhpv_4⟩ := h_1
  refine V_to (pc' := 4) (ls' := [(0, .ref tp), (1, .int op_)]) (st' := [.int r_2]) (ws' := [(lw, .inr (4, [.ref ws_, .ref ww, .ref wt, .ref wn, .ref wg, .ref wi, .int lz])), (ws_, .inl (Y 0, 128, .inl fs)), (ww, .inl (Y 0, 128, .inl fw)), (tp, .inr (8, [.ref tb, .int tl, .ref lw, .int pl, .int fa])), (tb, .inl (Y 0, 120, .inl fb))]) ?_ rfl rfl rfl rfl
  have hpe := PK_0 hhpk_3 hfa
  refine V_istore_n (ls' := [(2, .int r_2), (0, .ref tp), (1, .int op_)]) X (by decide) rfl dX9_readOperand_4 ?_
  refine V_iload_n X 0 rfl dX9_readOperand_5 ?_
  refine V_bipush (v := (48 : Int32)) X (by decide) dX9_readOperand_6 ?_
  refine V_icmp_lt X rfl (show (48 : Int32).toInt = 48 from by decide) 24 dX9_readOperand_8 (by decide) (fun c_8 => ?_) (fun c_8 => ?_)
  · have hng : ¬ (48 ≤ c pos ∧ c pos ≤ 57) := by unfold PK at hpe; omega
    refine V_iload_n X 0 rfl dX9_readOperand_24 ?_
    refine V_callS (wr := [(lw, .inr (4, [.ref ws_, .ref ww, .ref wt, .ref wn, .ref wg, .ref wi, .int lz])), (ws_, .inl (Y 0, 128, .inl fs)), (ww, .inl (Y 0, 128, .inl fw)), (tp, .inr (8, [.ref tb, .int tl, .ref lw, .int pl, .int fa])), (tb, .inl (Y 0, 120, .inl fb))]) (st := []) X (c_X9_nameOf l D Y r_2) 1 gX9_readOperand_X9_nameOf rfl (by decide +kernel) ⟨rfl, rfl⟩ ⟨(by simp only [headSpec]; omega), (by simp only [headSpec]; omega)⟩ [] [0, 1, 2, 3, 4] rfl rfl rfl rfl (by decide) rfl rfl (Nat.le_of_ble_eq_true rfl) ⟨Nat.le_of_ble_eq_true rfl, Nat.le_of_ble_eq_true rfl⟩ dX9_readOperand_25 (fun v_25 w_25 h_25 => ?_)
    obtain ⟨r_6, rfl, rfl, htr_7⟩ := h_25
    refine V_to (pc' := 28) (ls' := [(2, .int r_2), (0, .ref tp), (1, .int op_)]) (st' := [.int r_6]) (ws' := [(lw, .inr (4, [.ref ws_, .ref ww, .ref wt, .ref wn, .ref wg, .ref wi, .int lz])), (ws_, .inl (Y 0, 128, .inl fs)), (ww, .inl (Y 0, 128, .inl fw)), (tp, .inr (8, [.ref tb, .int tl, .ref lw, .int pl, .int fa])), (tb, .inl (Y 0, 120, .inl fb))]) ?_ rfl rfl rfl rfl
    refine V_if_lt X htr_7 57 dX9_readOperand_28 (by decide) (fun c_28 => ?_) (fun c_28 => ?_)
    · have hnn : nmC (c pos) < 0 := by rw [← nmC_PK hpe]; omega
      refine V_iload_n X 0 rfl dX9_readOperand_57 ?_
      refine V_bipush (v := (40 : Int32)) X (by decide) dX9_readOperand_58 ?_
      refine V_icmp_eq X rfl (show (40 : Int32).toInt = 40 from by decide) 75 dX9_readOperand_60 (by decide) (fun c_60 => ?_) (fun c_60 => ?_)
      · refine V_iload_n X 2 rfl dX9_readOperand_75 ?_
        refine V_bipush (v := (6 : Int32)) X (by decide) dX9_readOperand_76 ?_
        refine V_icmp_ge X top_ (show (6 : Int32).toInt = 6 from by decide) 165 dX9_readOperand_78 (by decide) (fun c_78 => False.elim (by omega)) (fun c_78 => ?_)
        have hcr : c pos = r_2.toInt := by unfold PK at hpe; omega
        have hqlt := CHR_lt hCH (show c pos ≠ -1 by omega)
        refine V_aload_n X 1 rfl dX9_readOperand_81 ?_
        refine V_dup X rfl dX9_readOperand_82 ?_
        refine V_get (C := RX9) (T := TX9) (N := 5) (ci := 8) (v := .int pl) X in_X9_readOperand_X9 3 rfl rfl 3 (by decide) (List.mem_of_getElem? (i := 1) rfl) rfl rfl dX9_readOperand_83 ?_
        refine V_iconst (v := (1 : Int32)) X (by decide) dX9_readOperand_86 ?_
        refine V_iaddZ X tpl (show (1 : Int32).toInt = 1 from by decide) (by omega) (by omega) dX9_readOperand_87 (fun x_8 ex_8 tx_8 => ?_)
        have tx_8 : x_8.toInt = (((pos + 1) : Nat) : Int) := by omega
        refine V_put (C := RX9) (T := TX9) (N := 5) (ci := 8) (v := .int x_8) (ty := tyX9 3) (ws' := [(lw, .inr (4, [.ref ws_, .ref ww, .ref wt, .ref wn, .ref wg, .ref wi, .int lz])), (ws_, .inl (Y 0, 128, .inl fs)), (ww, .inl (Y 0, 128, .inl fw)), (tp, .inr (8, [.ref tb, .int tl, .ref lw, .int x_8, .int fa])), (tb, .inl (Y 0, 120, .inl fb))]) X in_X9_readOperand_X9 3 rfl rfl 3 (by decide) (List.mem_of_getElem? (i := 1) rfl) rfl tyX9 tyX9_ok nmX9 rfl (tyX9_ok 3 (by decide)) rfl rfl (Nat.le_of_ble_eq_true rfl) rfl dX9_readOperand_88 ?_
        refine V_iload_n X 0 rfl dX9_readOperand_91 ?_
        refine V_bipush (v := (40 : Int32)) X (by decide) dX9_readOperand_92 ?_
        refine V_icmp_ne X rfl (show (40 : Int32).toInt = 40 from by decide) 135 dX9_readOperand_94 (by decide) (fun c_94 => False.elim (by omega)) (fun c_94 => ?_)
        refine V_aload_n X 1 rfl dX9_readOperand_97 ?_
        refine V_iconst (v := (0 : Int32)) X (by decide) dX9_readOperand_98 ?_
        refine V_iload_n X 2 rfl dX9_readOperand_99 ?_
        refine V_iconst (v := (1 : Int32)) X (by decide) dX9_readOperand_100 ?_
        refine V_iaddZ X top_ (show (1 : Int32).toInt = 1 from by decide) (by omega) (by omega) dX9_readOperand_101 (fun x_9 ex_9 tx_9 => ?_)
        have tx_9 : x_9.toInt = (((opn + 1) : Nat) : Int) := by omega
        refine V_callV (C := RX9) (wr := []) (st := []) X (ihT l D Y tp tb lw tl x_8 fa (pos + 1) L c ws_ ww wt wn wg wi lz fs fw t0 fb (0 : Int32) 0 x_9 (opn + 1) ttl hL tx_8 (by omega) hCH hLC hfa (by omega) tx_9 (by omega) (by decide) (by decide)) 2 gX9_readOperand_X9_readTerms rfl (by decide +kernel) ⟨rfl, rfl⟩ ⟨(by simp only [headSpec]; omega), (by simp only [headSpec]; omega)⟩ [3, 4, 0, 1, 2] [] rfl rfl rfl rfl (by decide) (ci := 8) rfl rfl 0 rfl rfl rfl (Nat.le_of_ble_eq_true rfl) ⟨Nat.le_of_ble_eq_true rfl, Nat.le_of_ble_eq_true rfl⟩ dX9_readOperand_102 (fun v_102 w_102 h_102 => ?_)
        rcases h_102 with ⟨q_g, ts_g, pl2_13, lz2_14, fs2_15, fw2_16, rfl, rfl, tplg, hRg, hqbg, hLg⟩ | ⟨q_g, t1_g, pl2_23, fa2_24, lz2_25, fs2_26, fw2_27, rfl, rfl, tplg, hRg, hqLg, hDg, hLg⟩
        · refine V_to (pc' := 105) (ls' := [(2, .int r_2), (0, .ref tp), (1, .int op_)]) (st' := []) (ws' := [(tp, .inr (8, [.ref tb, .int tl, .ref lw, .int pl2_13, .int fa])), (tb, .inl (Y 0, 120, .inl fb)), (lw, .inr (4, [.ref ws_, .ref ww, .ref wt, .ref wn, .ref wg, .ref wi, .int lz2_14])), (ws_, .inl (Y 0, 128, .inl fs2_15)), (ww, .inl (Y 0, 128, .inl fw2_16))]) ?_ rfl rfl rfl rfl
          refine V_aload_n X 1 rfl dX9_readOperand_105 ?_
          refine V_callV (C := RX9) (wr := [(lw, .inr (4, [.ref ws_, .ref ww, .ref wt, .ref wn, .ref wg, .ref wi, .int lz2_14])), (ws_, .inl (Y 0, 128, .inl fs2_15)), (ww, .inl (Y 0, 128, .inl fw2_16))]) (st := []) X (c_X9_peek l D Y tp tb lw tl pl2_13 fa q_g L c fb ttl hL tplg (by omega) hCH) 0 gX9_readOperand_X9_peek rfl (by decide +kernel) ⟨rfl, rfl⟩ ⟨(by simp only [headSpec]; omega), (by simp only [headSpec]; omega)⟩ [0, 1] [2, 3, 4] rfl rfl rfl rfl (by decide) (ci := 8) rfl rfl 0 rfl rfl rfl (Nat.le_of_ble_eq_true rfl) ⟨Nat.le_of_ble_eq_true rfl, Nat.le_of_ble_eq_true rfl⟩ dX9_readOperand_106 (fun v_106 w_106 h_106 => ?_)
          obtain ⟨r_34, rfl, rfl, hhpk_35, hhpv_36⟩ := h_106
          refine V_to (pc' := 109) (ls' := [(2, .int r_2), (0, .ref tp), (1, .int op_)]) (st' := [.int r_34]) (ws' := [(lw, .inr (4, [.ref ws_, .ref ww, .ref wt, .ref wn, .ref wg, .ref wi, .int lz2_14])), (ws_, .inl (Y 0, 128, .inl fs2_15)), (ww, .inl (Y 0, 128, .inl fw2_16)), (tp, .inr (8, [.ref tb, .int tl, .ref lw, .int pl2_13, .int fa])), (tb, .inl (Y 0, 120, .inl fb))]) ?_ rfl rfl rfl rfl
          refine V_bipush (v := (41 : Int32)) X (by decide) dX9_readOperand_109 ?_
          have hpq := PK_0 hhpk_35 hfa
          refine V_icmp_ne X rfl (show (41 : Int32).toInt = 41 from by decide) 127 dX9_readOperand_111 (by decide) (fun c_111 => ?_) (fun c_111 => ?_)
          · refine V_aload_n X 1 rfl dX9_readOperand_127 ?_
            refine V_iconst (v := (1 : Int32)) X (by decide) dX9_readOperand_128 ?_
            refine V_put (C := RX9) (T := TX9) (N := 5) (ci := 8) (v := .int (1 : Int32)) (ty := tyX9 4) (ws' := [(lw, .inr (4, [.ref ws_, .ref ww, .ref wt, .ref wn, .ref wg, .ref wi, .int lz2_14])), (ws_, .inl (Y 0, 128, .inl fs2_15)), (ww, .inl (Y 0, 128, .inl fw2_16)), (tp, .inr (8, [.ref tb, .int tl, .ref lw, .int pl2_13, .int (1 : Int32)])), (tb, .inl (Y 0, 120, .inl fb))]) X in_X9_readOperand_X9 3 rfl rfl 4 (by decide) (List.mem_of_getElem? (i := 3) rfl) rfl tyX9 tyX9_ok nmX9 rfl (tyX9_ok 4 (by decide)) rfl rfl (Nat.le_of_ble_eq_true rfl) rfl dX9_readOperand_129 ?_
            refine V_goto X 170 (by decide) dX9_readOperand_132 ?_
            refine V_ws (ws' := [(tp, .inr (8, [.ref tb, .int tl, .ref lw, .int pl2_13, .int (1 : Int32)])), (tb, .inl (Y 0, 120, .inl fb)), (lw, .inr (4, [.ref ws_, .ref ww, .ref wt, .ref wn, .ref wg, .ref wi, .int lz2_14])), (ws_, .inl (Y 0, 128, .inl fs2_15)), (ww, .inl (Y 0, 128, .inl fw2_16))]) [3, 4, 0, 1, 2] rfl rfl rfl ?_
            exact V_vret X hr dX9_readOperand_170 (Or.inr (⟨q_g, (t0 ++ ts_g), pl2_13, (1 : Int32), lz2_14, fs2_15, fw2_16, rfl, rfl, (by omega), ((pOp_p (by omega)).trans (pPa_x hRg (by unfold PK at hpq; omega))), (by omega), (Or.inl (by decide)), hLg⟩))
          · have h41 : c q_g = 41 := by unfold PK at hpq; omega
            have hqlt2 := CHR_lt hCH (show c q_g ≠ -1 by omega)
            refine V_aload_n X 1 rfl dX9_readOperand_114 ?_
            refine V_dup X rfl dX9_readOperand_115 ?_
            refine V_get (C := RX9) (T := TX9) (N := 5) (ci := 8) (v := .int pl2_13) X in_X9_readOperand_X9 3 rfl rfl 3 (by decide) (List.mem_of_getElem? (i := 1) rfl) rfl rfl dX9_readOperand_116 ?_
            refine V_iconst (v := (1 : Int32)) X (by decide) dX9_readOperand_119 ?_
            refine V_iaddZ X tplg (show (1 : Int32).toInt = 1 from by decide) (by omega) (by omega) dX9_readOperand_120 (fun x_37 ex_37 tx_37 => ?_)
            have tx_37 : x_37.toInt = (((q_g + 1) : Nat) : Int) := by omega
            refine V_put (C := RX9) (T := TX9) (N := 5) (ci := 8) (v := .int x_37) (ty := tyX9 3) (ws' := [(lw, .inr (4, [.ref ws_, .ref ww, .ref wt, .ref wn, .ref wg, .ref wi, .int lz2_14])), (ws_, .inl (Y 0, 128, .inl fs2_15)), (ww, .inl (Y 0, 128, .inl fw2_16)), (tp, .inr (8, [.ref tb, .int tl, .ref lw, .int x_37, .int fa])), (tb, .inl (Y 0, 120, .inl fb))]) X in_X9_readOperand_X9 3 rfl rfl 3 (by decide) (List.mem_of_getElem? (i := 1) rfl) rfl tyX9 tyX9_ok nmX9 rfl (tyX9_ok 3 (by decide)) rfl rfl (Nat.le_of_ble_eq_true rfl) rfl dX9_readOperand_121 ?_
            refine V_goto X 170 (by decide) dX9_readOperand_124 ?_
            refine V_ws (ws' := [(tp, .inr (8, [.ref tb, .int tl, .ref lw, .int x_37, .int fa])), (tb, .inl (Y 0, 120, .inl fb)), (lw, .inr (4, [.ref ws_, .ref ww, .ref wt, .ref wn, .ref wg, .ref wi, .int lz2_14])), (ws_, .inl (Y 0, 128, .inl fs2_15)), (ww, .inl (Y 0, 128, .inl fw2_16))]) [3, 4, 0, 1, 2] rfl rfl rfl ?_
            exact V_vret X hr dX9_readOperand_170 (Or.inl ⟨(q_g + 1), ts_g, x_37, lz2_14, fs2_15, fw2_16, rfl, rfl, (by omega), ((pOp_p (by omega)).trans (pPa_s hRg h41)), ⟨by omega, by omega⟩, hLg⟩)
        · refine V_to (pc' := 105) (ls' := [(2, .int r_2), (0, .ref tp), (1, .int op_)]) (st' := []) (ws' := [(tp, .inr (8, [.ref tb, .int tl, .ref lw, .int pl2_23, .int fa2_24])), (tb, .inl (Y 0, 120, .inl fb)), (lw, .inr (4, [.ref ws_, .ref ww, .ref wt, .ref wn, .ref wg, .ref wi, .int lz2_25])), (ws_, .inl (Y 0, 128, .inl fs2_26)), (ww, .inl (Y 0, 128, .inl fw2_27))]) ?_ rfl rfl rfl rfl
          refine V_aload_n X 1 rfl dX9_readOperand_105 ?_
          refine V_callV (C := RX9) (wr := [(lw, .inr (4, [.ref ws_, .ref ww, .ref wt, .ref wn, .ref wg, .ref wi, .int lz2_25])), (ws_, .inl (Y 0, 128, .inl fs2_26)), (ww, .inl (Y 0, 128, .inl fw2_27))]) (st := []) X (c_X9_peek l D Y tp tb lw tl pl2_23 fa2_24 q_g L c fb ttl hL tplg hqLg hCH) 0 gX9_readOperand_X9_peek rfl (by decide +kernel) ⟨rfl, rfl⟩ ⟨(by simp only [headSpec]; omega), (by simp only [headSpec]; omega)⟩ [0, 1] [2, 3, 4] rfl rfl rfl rfl (by decide) (ci := 8) rfl rfl 0 rfl rfl rfl (Nat.le_of_ble_eq_true rfl) ⟨Nat.le_of_ble_eq_true rfl, Nat.le_of_ble_eq_true rfl⟩ dX9_readOperand_106 (fun v_106 w_106 h_106 => ?_)
          obtain ⟨r_39, rfl, rfl, hhpk_40, hhpv_41⟩ := h_106
          refine V_to (pc' := 109) (ls' := [(2, .int r_2), (0, .ref tp), (1, .int op_)]) (st' := [.int r_39]) (ws' := [(lw, .inr (4, [.ref ws_, .ref ww, .ref wt, .ref wn, .ref wg, .ref wi, .int lz2_25])), (ws_, .inl (Y 0, 128, .inl fs2_26)), (ww, .inl (Y 0, 128, .inl fw2_27)), (tp, .inr (8, [.ref tb, .int tl, .ref lw, .int pl2_23, .int fa2_24])), (tb, .inl (Y 0, 120, .inl fb))]) ?_ rfl rfl rfl rfl
          refine V_bipush (v := (41 : Int32)) X (by decide) dX9_readOperand_109 ?_
          have hpd := PK_dead hhpk_40 hDg
          refine V_icmp_ne X rfl (show (41 : Int32).toInt = 41 from by decide) 127 dX9_readOperand_111 (by decide) (fun c_111 => ?_) (fun c_111 => False.elim (by omega))
          refine V_aload_n X 1 rfl dX9_readOperand_127 ?_
          refine V_iconst (v := (1 : Int32)) X (by decide) dX9_readOperand_128 ?_
          refine V_put (C := RX9) (T := TX9) (N := 5) (ci := 8) (v := .int (1 : Int32)) (ty := tyX9 4) (ws' := [(lw, .inr (4, [.ref ws_, .ref ww, .ref wt, .ref wn, .ref wg, .ref wi, .int lz2_25])), (ws_, .inl (Y 0, 128, .inl fs2_26)), (ww, .inl (Y 0, 128, .inl fw2_27)), (tp, .inr (8, [.ref tb, .int tl, .ref lw, .int pl2_23, .int (1 : Int32)])), (tb, .inl (Y 0, 120, .inl fb))]) X in_X9_readOperand_X9 3 rfl rfl 4 (by decide) (List.mem_of_getElem? (i := 3) rfl) rfl tyX9 tyX9_ok nmX9 rfl (tyX9_ok 4 (by decide)) rfl rfl (Nat.le_of_ble_eq_true rfl) rfl dX9_readOperand_129 ?_
          refine V_goto X 170 (by decide) dX9_readOperand_132 ?_
          refine V_ws (ws' := [(tp, .inr (8, [.ref tb, .int tl, .ref lw, .int pl2_23, .int (1 : Int32)])), (tb, .inl (Y 0, 120, .inl fb)), (lw, .inr (4, [.ref ws_, .ref ww, .ref wt, .ref wn, .ref wg, .ref wi, .int lz2_25])), (ws_, .inl (Y 0, 128, .inl fs2_26)), (ww, .inl (Y 0, 128, .inl fw2_27))]) [3, 4, 0, 1, 2] rfl rfl rfl ?_
          exact V_vret X hr dX9_readOperand_170 (Or.inr (⟨q_g, t1_g, pl2_23, (1 : Int32), lz2_25, fs2_26, fw2_27, rfl, rfl, (by omega), ((pOp_p (by omega)).trans (pBd_n hRg)), (by omega), (Or.inl (by decide)), hLg⟩))
      · refine V_iload_n X 0 rfl dX9_readOperand_63 ?_
        refine V_bipush (v := (33 : Int32)) X (by decide) dX9_readOperand_64 ?_
        refine V_icmp_eq X rfl (show (33 : Int32).toInt = 33 from by decide) 75 dX9_readOperand_66 (by decide) (fun c_66 => ?_) (fun c_66 => ?_)
        · refine V_iload_n X 2 rfl dX9_readOperand_75 ?_
          refine V_bipush (v := (6 : Int32)) X (by decide) dX9_readOperand_76 ?_
          refine V_icmp_ge X top_ (show (6 : Int32).toInt = 6 from by decide) 165 dX9_readOperand_78 (by decide) (fun c_78 => False.elim (by omega)) (fun c_78 => ?_)
          have hcr : c pos = r_2.toInt := by unfold PK at hpe; omega
          have hqlt := CHR_lt hCH (show c pos ≠ -1 by omega)
          refine V_aload_n X 1 rfl dX9_readOperand_81 ?_
          refine V_dup X rfl dX9_readOperand_82 ?_
          refine V_get (C := RX9) (T := TX9) (N := 5) (ci := 8) (v := .int pl) X in_X9_readOperand_X9 3 rfl rfl 3 (by decide) (List.mem_of_getElem? (i := 1) rfl) rfl rfl dX9_readOperand_83 ?_
          refine V_iconst (v := (1 : Int32)) X (by decide) dX9_readOperand_86 ?_
          refine V_iaddZ X tpl (show (1 : Int32).toInt = 1 from by decide) (by omega) (by omega) dX9_readOperand_87 (fun x_42 ex_42 tx_42 => ?_)
          have tx_42 : x_42.toInt = (((pos + 1) : Nat) : Int) := by omega
          refine V_put (C := RX9) (T := TX9) (N := 5) (ci := 8) (v := .int x_42) (ty := tyX9 3) (ws' := [(lw, .inr (4, [.ref ws_, .ref ww, .ref wt, .ref wn, .ref wg, .ref wi, .int lz])), (ws_, .inl (Y 0, 128, .inl fs)), (ww, .inl (Y 0, 128, .inl fw)), (tp, .inr (8, [.ref tb, .int tl, .ref lw, .int x_42, .int fa])), (tb, .inl (Y 0, 120, .inl fb))]) X in_X9_readOperand_X9 3 rfl rfl 3 (by decide) (List.mem_of_getElem? (i := 1) rfl) rfl tyX9 tyX9_ok nmX9 rfl (tyX9_ok 3 (by decide)) rfl rfl (Nat.le_of_ble_eq_true rfl) rfl dX9_readOperand_88 ?_
          refine V_iload_n X 0 rfl dX9_readOperand_91 ?_
          refine V_bipush (v := (40 : Int32)) X (by decide) dX9_readOperand_92 ?_
          refine V_icmp_ne X rfl (show (40 : Int32).toInt = 40 from by decide) 135 dX9_readOperand_94 (by decide) (fun c_94 => ?_) (fun c_94 => False.elim (by omega))
          refine V_aload_n X 1 rfl dX9_readOperand_135 ?_
          refine V_iload_n X 2 rfl dX9_readOperand_136 ?_
          refine V_iconst (v := (1 : Int32)) X (by decide) dX9_readOperand_137 ?_
          refine V_iaddZ X top_ (show (1 : Int32).toInt = 1 from by decide) (by omega) (by omega) dX9_readOperand_138 (fun x_43 ex_43 tx_43 => ?_)
          have tx_43 : x_43.toInt = (((opn + 1) : Nat) : Int) := by omega
          refine V_callV (C := RX9) (wr := []) (st := []) X (ihO l D Y tp tb lw tl x_42 fa (pos + 1) L c ws_ ww wt wn wg wi lz fs fw t0 fb x_43 (opn + 1) ttl hL tx_42 (by omega) hCH hLC hfa (by omega) tx_43 (by omega)) 1 gX9_readOperand_X9_readOperand rfl (by decide +kernel) ⟨rfl, rfl⟩ ⟨(by simp only [headSpec]; omega), (by simp only [headSpec]; omega)⟩ [3, 4, 0, 1, 2] [] rfl rfl rfl rfl (by decide) (ci := 8) rfl rfl 0 rfl rfl rfl (Nat.le_of_ble_eq_true rfl) ⟨Nat.le_of_ble_eq_true rfl, Nat.le_of_ble_eq_true rfl⟩ dX9_readOperand_139 (fun v_139 w_139 h_139 => ?_)
          rcases h_139 with ⟨q_h, ts_h, pl2_47, lz2_48, fs2_49, fw2_50, rfl, rfl, tplh, hRh, hqbh, hLh⟩ | ⟨q_h, t1_h, pl2_57, fa2_58, lz2_59, fs2_60, fw2_61, rfl, rfl, tplh, hRh, hqLh, hDh, hLh⟩
          · refine V_to (pc' := 142) (ls' := [(2, .int r_2), (0, .ref tp), (1, .int op_)]) (st' := []) (ws' := [(tp, .inr (8, [.ref tb, .int tl, .ref lw, .int pl2_47, .int fa])), (tb, .inl (Y 0, 120, .inl fb)), (lw, .inr (4, [.ref ws_, .ref ww, .ref wt, .ref wn, .ref wg, .ref wi, .int lz2_48])), (ws_, .inl (Y 0, 128, .inl fs2_49)), (ww, .inl (Y 0, 128, .inl fw2_50))]) ?_ rfl rfl rfl rfl
            refine V_aload_n X 1 rfl dX9_readOperand_142 ?_
            refine V_get (C := RX9) (T := TX9) (N := 5) (ci := 8) (v := .ref lw) X in_X9_readOperand_X9 0 rfl rfl 2 (by decide) (List.mem_of_getElem? (i := 2) rfl) rfl rfl dX9_readOperand_143 ?_
            refine V_iload_n X 0 rfl dX9_readOperand_146 ?_
            refine V_bipush (v := (45 : Int32)) X (by decide) dX9_readOperand_147 ?_
            refine V_icmp_ne X rfl (show (45 : Int32).toInt = 45 from by decide) 157 dX9_readOperand_149 (by decide) (fun c_149 => ?_) (fun c_149 => False.elim (by omega))
            refine V_iload_n X 0 rfl dX9_readOperand_157 ?_
            refine V_iconst (v := (0 : Int32)) X (by decide) dX9_readOperand_158 ?_
            refine V_callV (C := RX5) (wr := [(tp, .inr (8, [.ref tb, .int tl, .ref lw, .int pl2_47, .int fa])), (tb, .inl (Y 0, 120, .inl fb))]) (st := []) X (c_X5_addT l D Y lw ws_ ww wt wn wg wi lz2_48 fs2_49 fw2_50 (t0 ++ ts_h) r_2 (0 : Int32) hLh) 2 gX9_readOperand_X5_add rfl (by decide +kernel) ⟨rfl, rfl⟩ ⟨(by simp only [headSpec]; omega), (by simp only [headSpec]; omega)⟩ [2, 3, 4] [0, 1] rfl rfl rfl rfl (by decide) (ci := 4) rfl rfl 0 rfl rfl rfl (Nat.le_of_ble_eq_true rfl) ⟨Nat.le_of_ble_eq_true rfl, Nat.le_of_ble_eq_true rfl⟩ dX9_readOperand_159 (fun v_159 w_159 h_159 => ?_)
            obtain ⟨lz2_68, fs2_69, fw2_70, t_b, rfl, rfl, hLb, htb⟩ := h_159
            refine V_to (pc' := 162) (ls' := [(2, .int r_2), (0, .ref tp), (1, .int op_)]) (st' := []) (ws' := [(tp, .inr (8, [.ref tb, .int tl, .ref lw, .int pl2_47, .int fa])), (tb, .inl (Y 0, 120, .inl fb)), (lw, .inr (4, [.ref ws_, .ref ww, .ref wt, .ref wn, .ref wg, .ref wi, .int lz2_68])), (ws_, .inl (Y 0, 128, .inl fs2_69)), (ww, .inl (Y 0, 128, .inl fw2_70))]) ?_ rfl rfl rfl rfl
            have hc_0 : (0 : Int32).toInt = 0 := by decide
            have htb9 : t_b = t0 ++ (ts_h ++ [((if c pos = 45 then 126 else 33), 0)]) := by have h9 := htb (by rw [List.length_append]; omega); rw [show (0 : Int32).toInt = 0 from by decide, show r_2.toInt = (if c pos = 45 then 126 else 33) from by rw [if_neg (by omega)]; omega] at h9; rw [h9, LC_app]
            refine V_goto X 170 (by decide) dX9_readOperand_162 ?_
            exact V_vret X hr dX9_readOperand_170 (Or.inl ⟨q_h, (ts_h ++ [((if c pos = 45 then 126 else 33), 0)]), pl2_47, lz2_68, fs2_69, fw2_70, rfl, rfl, (by omega), ((pOp_u (by omega)).trans (pNe_s hRh)), ⟨by rw [List.length_append]; show pos + (ts_h.length + 1) ≤ q_h; omega, hqbh.2⟩, (htb9 ▸ hLb)⟩)
          · refine V_to (pc' := 142) (ls' := [(2, .int r_2), (0, .ref tp), (1, .int op_)]) (st' := []) (ws' := [(tp, .inr (8, [.ref tb, .int tl, .ref lw, .int pl2_57, .int fa2_58])), (tb, .inl (Y 0, 120, .inl fb)), (lw, .inr (4, [.ref ws_, .ref ww, .ref wt, .ref wn, .ref wg, .ref wi, .int lz2_59])), (ws_, .inl (Y 0, 128, .inl fs2_60)), (ww, .inl (Y 0, 128, .inl fw2_61))]) ?_ rfl rfl rfl rfl
            refine V_aload_n X 1 rfl dX9_readOperand_142 ?_
            refine V_get (C := RX9) (T := TX9) (N := 5) (ci := 8) (v := .ref lw) X in_X9_readOperand_X9 0 rfl rfl 2 (by decide) (List.mem_of_getElem? (i := 2) rfl) rfl rfl dX9_readOperand_143 ?_
            refine V_iload_n X 0 rfl dX9_readOperand_146 ?_
            refine V_bipush (v := (45 : Int32)) X (by decide) dX9_readOperand_147 ?_
            refine V_icmp_ne X rfl (show (45 : Int32).toInt = 45 from by decide) 157 dX9_readOperand_149 (by decide) (fun c_149 => ?_) (fun c_149 => False.elim (by omega))
            refine V_iload_n X 0 rfl dX9_readOperand_157 ?_
            refine V_iconst (v := (0 : Int32)) X (by decide) dX9_readOperand_158 ?_
            refine V_callV (C := RX5) (wr := [(tp, .inr (8, [.ref tb, .int tl, .ref lw, .int pl2_57, .int fa2_58])), (tb, .inl (Y 0, 120, .inl fb))]) (st := []) X (c_X5_addT l D Y lw ws_ ww wt wn wg wi lz2_59 fs2_60 fw2_61 t1_h r_2 (0 : Int32) hLh) 2 gX9_readOperand_X5_add rfl (by decide +kernel) ⟨rfl, rfl⟩ ⟨(by simp only [headSpec]; omega), (by simp only [headSpec]; omega)⟩ [2, 3, 4] [0, 1] rfl rfl rfl rfl (by decide) (ci := 4) rfl rfl 0 rfl rfl rfl (Nat.le_of_ble_eq_true rfl) ⟨Nat.le_of_ble_eq_true rfl, Nat.le_of_ble_eq_true rfl⟩ dX9_readOperand_159 (fun v_159 w_159 h_159 => ?_)
            obtain ⟨lz2_75, fs2_76, fw2_77, t_b, rfl, rfl, hLb, htb⟩ := h_159
            refine V_to (pc' := 162) (ls' := [(2, .int r_2), (0, .ref tp), (1, .int op_)]) (st' := []) (ws' := [(tp, .inr (8, [.ref tb, .int tl, .ref lw, .int pl2_57, .int fa2_58])), (tb, .inl (Y 0, 120, .inl fb)), (lw, .inr (4, [.ref ws_, .ref ww, .ref wt, .ref wn, .ref wg, .ref wi, .int lz2_75])), (ws_, .inl (Y 0, 128, .inl fs2_76)), (ww, .inl (Y 0, 128, .inl fw2_77))]) ?_ rfl rfl rfl rfl
            have hc_0 : (0 : Int32).toInt = 0 := by decide
            refine V_goto X 170 (by decide) dX9_readOperand_162 ?_
            exact V_vret X hr dX9_readOperand_170 (Or.inr (⟨q_h, t_b, pl2_57, fa2_58, lz2_75, fs2_76, fw2_77, rfl, rfl, (by omega), ((pOp_u (by omega)).trans (pBd_n hRh)), (by omega), hDh, hLb⟩))
        · refine V_iload_n X 0 rfl dX9_readOperand_69 ?_
          refine V_bipush (v := (45 : Int32)) X (by decide) dX9_readOperand_70 ?_
          refine V_icmp_ne X rfl (show (45 : Int32).toInt = 45 from by decide) 165 dX9_readOperand_72 (by decide) (fun c_72 => ?_) (fun c_72 => ?_)
          · refine V_aload_n X 1 rfl dX9_readOperand_165 ?_
            refine V_iconst (v := (1 : Int32)) X (by decide) dX9_readOperand_166 ?_
            refine V_put (C := RX9) (T := TX9) (N := 5) (ci := 8) (v := .int (1 : Int32)) (ty := tyX9 4) (ws' := [(lw, .inr (4, [.ref ws_, .ref ww, .ref wt, .ref wn, .ref wg, .ref wi, .int lz])), (ws_, .inl (Y 0, 128, .inl fs)), (ww, .inl (Y 0, 128, .inl fw)), (tp, .inr (8, [.ref tb, .int tl, .ref lw, .int pl, .int (1 : Int32)])), (tb, .inl (Y 0, 120, .inl fb))]) X in_X9_readOperand_X9 3 rfl rfl 4 (by decide) (List.mem_of_getElem? (i := 3) rfl) rfl tyX9 tyX9_ok nmX9 rfl (tyX9_ok 4 (by decide)) rfl rfl (Nat.le_of_ble_eq_true rfl) rfl dX9_readOperand_167 ?_
            refine V_ws (ws' := [(tp, .inr (8, [.ref tb, .int tl, .ref lw, .int pl, .int (1 : Int32)])), (tb, .inl (Y 0, 120, .inl fb)), (lw, .inr (4, [.ref ws_, .ref ww, .ref wt, .ref wn, .ref wg, .ref wi, .int lz])), (ws_, .inl (Y 0, 128, .inl fs)), (ww, .inl (Y 0, 128, .inl fw))]) [3, 4, 0, 1, 2] rfl rfl rfl ?_
            exact V_vret X hr dX9_readOperand_170 (Or.inr (⟨pos, t0, pl, (1 : Int32), lz, fs, fw, rfl, rfl, (by omega), (pOp_x hng hnn (Or.inr (by unfold PK at hpe; omega))), (by omega), (Or.inl (by decide)), hLC⟩))
          · refine V_iload_n X 2 rfl dX9_readOperand_75 ?_
            refine V_bipush (v := (6 : Int32)) X (by decide) dX9_readOperand_76 ?_
            refine V_icmp_ge X top_ (show (6 : Int32).toInt = 6 from by decide) 165 dX9_readOperand_78 (by decide) (fun c_78 => False.elim (by omega)) (fun c_78 => ?_)
            have hcr : c pos = r_2.toInt := by unfold PK at hpe; omega
            have hqlt := CHR_lt hCH (show c pos ≠ -1 by omega)
            refine V_aload_n X 1 rfl dX9_readOperand_81 ?_
            refine V_dup X rfl dX9_readOperand_82 ?_
            refine V_get (C := RX9) (T := TX9) (N := 5) (ci := 8) (v := .int pl) X in_X9_readOperand_X9 3 rfl rfl 3 (by decide) (List.mem_of_getElem? (i := 1) rfl) rfl rfl dX9_readOperand_83 ?_
            refine V_iconst (v := (1 : Int32)) X (by decide) dX9_readOperand_86 ?_
            refine V_iaddZ X tpl (show (1 : Int32).toInt = 1 from by decide) (by omega) (by omega) dX9_readOperand_87 (fun x_81 ex_81 tx_81 => ?_)
            have tx_81 : x_81.toInt = (((pos + 1) : Nat) : Int) := by omega
            refine V_put (C := RX9) (T := TX9) (N := 5) (ci := 8) (v := .int x_81) (ty := tyX9 3) (ws' := [(lw, .inr (4, [.ref ws_, .ref ww, .ref wt, .ref wn, .ref wg, .ref wi, .int lz])), (ws_, .inl (Y 0, 128, .inl fs)), (ww, .inl (Y 0, 128, .inl fw)), (tp, .inr (8, [.ref tb, .int tl, .ref lw, .int x_81, .int fa])), (tb, .inl (Y 0, 120, .inl fb))]) X in_X9_readOperand_X9 3 rfl rfl 3 (by decide) (List.mem_of_getElem? (i := 1) rfl) rfl tyX9 tyX9_ok nmX9 rfl (tyX9_ok 3 (by decide)) rfl rfl (Nat.le_of_ble_eq_true rfl) rfl dX9_readOperand_88 ?_
            refine V_iload_n X 0 rfl dX9_readOperand_91 ?_
            refine V_bipush (v := (40 : Int32)) X (by decide) dX9_readOperand_92 ?_
            refine V_icmp_ne X rfl (show (40 : Int32).toInt = 40 from by decide) 135 dX9_readOperand_94 (by decide) (fun c_94 => ?_) (fun c_94 => False.elim (by omega))
            refine V_aload_n X 1 rfl dX9_readOperand_135 ?_
            refine V_iload_n X 2 rfl dX9_readOperand_136 ?_
            refine V_iconst (v := (1 : Int32)) X (by decide) dX9_readOperand_137 ?_
            refine V_iaddZ X top_ (show (1 : Int32).toInt = 1 from by decide) (by omega) (by omega) dX9_readOperand_138 (fun x_82 ex_82 tx_82 => ?_)
            have tx_82 : x_82.toInt = (((opn + 1) : Nat) : Int) := by omega
            refine V_callV (C := RX9) (wr := []) (st := []) X (ihO l D Y tp tb lw tl x_81 fa (pos + 1) L c ws_ ww wt wn wg wi lz fs fw t0 fb x_82 (opn + 1) ttl hL tx_81 (by omega) hCH hLC hfa (by omega) tx_82 (by omega)) 1 gX9_readOperand_X9_readOperand rfl (by decide +kernel) ⟨rfl, rfl⟩ ⟨(by simp only [headSpec]; omega), (by simp only [headSpec]; omega)⟩ [3, 4, 0, 1, 2] [] rfl rfl rfl rfl (by decide) (ci := 8) rfl rfl 0 rfl rfl rfl (Nat.le_of_ble_eq_true rfl) ⟨Nat.le_of_ble_eq_true rfl, Nat.le_of_ble_eq_true rfl⟩ dX9_readOperand_139 (fun v_139 w_139 h_139 => ?_)
            rcases h_139 with ⟨q_h, ts_h, pl2_86, lz2_87, fs2_88, fw2_89, rfl, rfl, tplh, hRh, hqbh, hLh⟩ | ⟨q_h, t1_h, pl2_96, fa2_97, lz2_98, fs2_99, fw2_100, rfl, rfl, tplh, hRh, hqLh, hDh, hLh⟩
            · refine V_to (pc' := 142) (ls' := [(2, .int r_2), (0, .ref tp), (1, .int op_)]) (st' := []) (ws' := [(tp, .inr (8, [.ref tb, .int tl, .ref lw, .int pl2_86, .int fa])), (tb, .inl (Y 0, 120, .inl fb)), (lw, .inr (4, [.ref ws_, .ref ww, .ref wt, .ref wn, .ref wg, .ref wi, .int lz2_87])), (ws_, .inl (Y 0, 128, .inl fs2_88)), (ww, .inl (Y 0, 128, .inl fw2_89))]) ?_ rfl rfl rfl rfl
              refine V_aload_n X 1 rfl dX9_readOperand_142 ?_
              refine V_get (C := RX9) (T := TX9) (N := 5) (ci := 8) (v := .ref lw) X in_X9_readOperand_X9 0 rfl rfl 2 (by decide) (List.mem_of_getElem? (i := 2) rfl) rfl rfl dX9_readOperand_143 ?_
              refine V_iload_n X 0 rfl dX9_readOperand_146 ?_
              refine V_bipush (v := (45 : Int32)) X (by decide) dX9_readOperand_147 ?_
              refine V_icmp_ne X rfl (show (45 : Int32).toInt = 45 from by decide) 157 dX9_readOperand_149 (by decide) (fun c_149 => False.elim (by omega)) (fun c_149 => ?_)
              refine V_bipush (v := (126 : Int32)) X (by decide) dX9_readOperand_152 ?_
              refine V_goto X 158 (by decide) dX9_readOperand_154 ?_
              refine V_iconst (v := (0 : Int32)) X (by decide) dX9_readOperand_158 ?_
              refine V_callV (C := RX5) (wr := [(tp, .inr (8, [.ref tb, .int tl, .ref lw, .int pl2_86, .int fa])), (tb, .inl (Y 0, 120, .inl fb))]) (st := []) X (c_X5_addT l D Y lw ws_ ww wt wn wg wi lz2_87 fs2_88 fw2_89 (t0 ++ ts_h) (126 : Int32) (0 : Int32) hLh) 2 gX9_readOperand_X5_add rfl (by decide +kernel) ⟨rfl, rfl⟩ ⟨(by simp only [headSpec]; omega), (by simp only [headSpec]; omega)⟩ [2, 3, 4] [0, 1] rfl rfl rfl rfl (by decide) (ci := 4) rfl rfl 0 rfl rfl rfl (Nat.le_of_ble_eq_true rfl) ⟨Nat.le_of_ble_eq_true rfl, Nat.le_of_ble_eq_true rfl⟩ dX9_readOperand_159 (fun v_159 w_159 h_159 => ?_)
              obtain ⟨lz2_107, fs2_108, fw2_109, t_b, rfl, rfl, hLb, htb⟩ := h_159
              refine V_to (pc' := 162) (ls' := [(2, .int r_2), (0, .ref tp), (1, .int op_)]) (st' := []) (ws' := [(tp, .inr (8, [.ref tb, .int tl, .ref lw, .int pl2_86, .int fa])), (tb, .inl (Y 0, 120, .inl fb)), (lw, .inr (4, [.ref ws_, .ref ww, .ref wt, .ref wn, .ref wg, .ref wi, .int lz2_107])), (ws_, .inl (Y 0, 128, .inl fs2_108)), (ww, .inl (Y 0, 128, .inl fw2_109))]) ?_ rfl rfl rfl rfl
              have hc_0 : (0 : Int32).toInt = 0 := by decide
              have hc_126 : (126 : Int32).toInt = 126 := by decide
              have htb9 : t_b = t0 ++ (ts_h ++ [((if c pos = 45 then 126 else 33), 0)]) := by have h9 := htb (by rw [List.length_append]; omega); rw [show (0 : Int32).toInt = 0 from by decide, show (126 : Int32).toInt = (if c pos = 45 then 126 else 33) from by rw [if_pos (by omega)]; decide] at h9; rw [h9, LC_app]
              refine V_goto X 170 (by decide) dX9_readOperand_162 ?_
              exact V_vret X hr dX9_readOperand_170 (Or.inl ⟨q_h, (ts_h ++ [((if c pos = 45 then 126 else 33), 0)]), pl2_86, lz2_107, fs2_108, fw2_109, rfl, rfl, (by omega), ((pOp_u (by omega)).trans (pNe_s hRh)), ⟨by rw [List.length_append]; show pos + (ts_h.length + 1) ≤ q_h; omega, hqbh.2⟩, (htb9 ▸ hLb)⟩)
            · refine V_to (pc' := 142) (ls' := [(2, .int r_2), (0, .ref tp), (1, .int op_)]) (st' := []) (ws' := [(tp, .inr (8, [.ref tb, .int tl, .ref lw, .int pl2_96, .int fa2_97])), (tb, .inl (Y 0, 120, .inl fb)), (lw, .inr (4, [.ref ws_, .ref ww, .ref wt, .ref wn, .ref wg, .ref wi, .int lz2_98])), (ws_, .inl (Y 0, 128, .inl fs2_99)), (ww, .inl (Y 0, 128, .inl fw2_100))]) ?_ rfl rfl rfl rfl
              refine V_aload_n X 1 rfl dX9_readOperand_142 ?_
              refine V_get (C := RX9) (T := TX9) (N := 5) (ci := 8) (v := .ref lw) X in_X9_readOperand_X9 0 rfl rfl 2 (by decide) (List.mem_of_getElem? (i := 2) rfl) rfl rfl dX9_readOperand_143 ?_
              refine V_iload_n X 0 rfl dX9_readOperand_146 ?_
              refine V_bipush (v := (45 : Int32)) X (by decide) dX9_readOperand_147 ?_
              refine V_icmp_ne X rfl (show (45 : Int32).toInt = 45 from by decide) 157 dX9_readOperand_149 (by decide) (fun c_149 => False.elim (by omega)) (fun c_149 => ?_)
              refine V_bipush (v := (126 : Int32)) X (by decide) dX9_readOperand_152 ?_
              refine V_goto X 158 (by decide) dX9_readOperand_154 ?_
              refine V_iconst (v := (0 : Int32)) X (by decide) dX9_readOperand_158 ?_
              refine V_callV (C := RX5) (wr := [(tp, .inr (8, [.ref tb, .int tl, .ref lw, .int pl2_96, .int fa2_97])), (tb, .inl (Y 0, 120, .inl fb))]) (st := []) X (c_X5_addT l D Y lw ws_ ww wt wn wg wi lz2_98 fs2_99 fw2_100 t1_h (126 : Int32) (0 : Int32) hLh) 2 gX9_readOperand_X5_add rfl (by decide +kernel) ⟨rfl, rfl⟩ ⟨(by simp only [headSpec]; omega), (by simp only [headSpec]; omega)⟩ [2, 3, 4] [0, 1] rfl rfl rfl rfl (by decide) (ci := 4) rfl rfl 0 rfl rfl rfl (Nat.le_of_ble_eq_true rfl) ⟨Nat.le_of_ble_eq_true rfl, Nat.le_of_ble_eq_true rfl⟩ dX9_readOperand_159 (fun v_159 w_159 h_159 => ?_)
              obtain ⟨lz2_114, fs2_115, fw2_116, t_b, rfl, rfl, hLb, htb⟩ := h_159
              refine V_to (pc' := 162) (ls' := [(2, .int r_2), (0, .ref tp), (1, .int op_)]) (st' := []) (ws' := [(tp, .inr (8, [.ref tb, .int tl, .ref lw, .int pl2_96, .int fa2_97])), (tb, .inl (Y 0, 120, .inl fb)), (lw, .inr (4, [.ref ws_, .ref ww, .ref wt, .ref wn, .ref wg, .ref wi, .int lz2_114])), (ws_, .inl (Y 0, 128, .inl fs2_115)), (ww, .inl (Y 0, 128, .inl fw2_116))]) ?_ rfl rfl rfl rfl
              have hc_0 : (0 : Int32).toInt = 0 := by decide
              have hc_126 : (126 : Int32).toInt = 126 := by decide
              refine V_goto X 170 (by decide) dX9_readOperand_162 ?_
              exact V_vret X hr dX9_readOperand_170 (Or.inr (⟨q_h, t_b, pl2_96, fa2_97, lz2_114, fs2_115, fw2_116, rfl, rfl, (by omega), ((pOp_u (by omega)).trans (pBd_n hRh)), (by omega), hDh, hLb⟩))
    · have hnm : 0 ≤ nmC (c pos) := by rw [← nmC_PK hpe]; omega
      have hnb := nmC_big hnm
      have hqlt := CHR_lt hCH (show c pos ≠ -1 by omega)
      refine V_aload_n X 1 rfl dX9_readOperand_31 ?_
      refine V_dup X rfl dX9_readOperand_32 ?_
      refine V_get (C := RX9) (T := TX9) (N := 5) (ci := 8) (v := .int pl) X in_X9_readOperand_X9 3 rfl rfl 3 (by decide) (List.mem_of_getElem? (i := 1) rfl) rfl rfl dX9_readOperand_33 ?_
      refine V_iconst (v := (1 : Int32)) X (by decide) dX9_readOperand_36 ?_
      refine V_iaddZ X tpl (show (1 : Int32).toInt = 1 from by decide) (by omega) (by omega) dX9_readOperand_37 (fun x_120 ex_120 tx_120 => ?_)
      have tx_120 : x_120.toInt = (((pos + 1) : Nat) : Int) := by omega
      refine V_put (C := RX9) (T := TX9) (N := 5) (ci := 8) (v := .int x_120) (ty := tyX9 3) (ws' := [(lw, .inr (4, [.ref ws_, .ref ww, .ref wt, .ref wn, .ref wg, .ref wi, .int lz])), (ws_, .inl (Y 0, 128, .inl fs)), (ww, .inl (Y 0, 128, .inl fw)), (tp, .inr (8, [.ref tb, .int tl, .ref lw, .int x_120, .int fa])), (tb, .inl (Y 0, 120, .inl fb))]) X in_X9_readOperand_X9 3 rfl rfl 3 (by decide) (List.mem_of_getElem? (i := 1) rfl) rfl tyX9 tyX9_ok nmX9 rfl (tyX9_ok 3 (by decide)) rfl rfl (Nat.le_of_ble_eq_true rfl) rfl dX9_readOperand_38 ?_
      refine V_aload_n X 1 rfl dX9_readOperand_41 ?_
      refine V_get (C := RX9) (T := TX9) (N := 5) (ci := 8) (v := .ref lw) X in_X9_readOperand_X9 3 rfl rfl 2 (by decide) (List.mem_of_getElem? (i := 2) rfl) rfl rfl dX9_readOperand_42 ?_
      refine V_bipush (v := (97 : Int32)) X (by decide) dX9_readOperand_45 ?_
      refine V_iload_n X 0 rfl dX9_readOperand_47 ?_
      refine V_callS (wr := [(lw, .inr (4, [.ref ws_, .ref ww, .ref wt, .ref wn, .ref wg, .ref wi, .int lz])), (ws_, .inl (Y 0, 128, .inl fs)), (ww, .inl (Y 0, 128, .inl fw)), (tp, .inr (8, [.ref tb, .int tl, .ref lw, .int x_120, .int fa])), (tb, .inl (Y 0, 120, .inl fb))]) (st := [.int (97 : Int32), .ref lw]) X (c_X9_nameOf l D Y r_2) 1 gX9_readOperand_X9_nameOf rfl (by decide +kernel) ⟨rfl, rfl⟩ ⟨(by simp only [headSpec]; omega), (by simp only [headSpec]; omega)⟩ [] [0, 1, 2, 3, 4] rfl rfl rfl rfl (by decide) rfl rfl (Nat.le_of_ble_eq_true rfl) ⟨Nat.le_of_ble_eq_true rfl, Nat.le_of_ble_eq_true rfl⟩ dX9_readOperand_48 (fun v_48 w_48 h_48 => ?_)
      obtain ⟨r_122, rfl, rfl, htr_123⟩ := h_48
      refine V_to (pc' := 51) (ls' := [(2, .int r_2), (0, .ref tp), (1, .int op_)]) (st' := [.int r_122, .int (97 : Int32), .ref lw]) (ws' := [(lw, .inr (4, [.ref ws_, .ref ww, .ref wt, .ref wn, .ref wg, .ref wi, .int lz])), (ws_, .inl (Y 0, 128, .inl fs)), (ww, .inl (Y 0, 128, .inl fw)), (tp, .inr (8, [.ref tb, .int tl, .ref lw, .int x_120, .int fa])), (tb, .inl (Y 0, 120, .inl fb))]) ?_ rfl rfl rfl rfl
      refine V_callV (C := RX5) (wr := [(tp, .inr (8, [.ref tb, .int tl, .ref lw, .int x_120, .int fa])), (tb, .inl (Y 0, 120, .inl fb))]) (st := []) X (c_X5_addT l D Y lw ws_ ww wt wn wg wi lz fs fw t0 (97 : Int32) r_122 hLC) 2 gX9_readOperand_X5_add rfl (by decide +kernel) ⟨rfl, rfl⟩ ⟨(by simp only [headSpec]; omega), (by simp only [headSpec]; omega)⟩ [0, 1, 2] [3, 4] rfl rfl rfl rfl (by decide) (ci := 4) rfl rfl 0 rfl rfl rfl (Nat.le_of_ble_eq_true rfl) ⟨Nat.le_of_ble_eq_true rfl, Nat.le_of_ble_eq_true rfl⟩ dX9_readOperand_51 (fun v_51 w_51 h_51 => ?_)
      obtain ⟨lz2_125, fs2_126, fw2_127, t_a, rfl, rfl, hLa, hta⟩ := h_51
      refine V_to (pc' := 54) (ls' := [(2, .int r_2), (0, .ref tp), (1, .int op_)]) (st' := []) (ws' := [(tp, .inr (8, [.ref tb, .int tl, .ref lw, .int x_120, .int fa])), (tb, .inl (Y 0, 120, .inl fb)), (lw, .inr (4, [.ref ws_, .ref ww, .ref wt, .ref wn, .ref wg, .ref wi, .int lz2_125])), (ws_, .inl (Y 0, 128, .inl fs2_126)), (ww, .inl (Y 0, 128, .inl fw2_127))]) ?_ rfl rfl rfl rfl
      have hc_97 : (97 : Int32).toInt = 97 := by decide
      have hta9 : t_a = t0 ++ [(97, nmC (c pos))] := by have h9 := hta (by omega); rw [show (97 : Int32).toInt = 97 from by decide, htr_123, nmC_PK hpe] at h9; exact h9
      refine V_goto X 170 (by decide) dX9_readOperand_54 ?_
      exact V_vret X hr dX9_readOperand_170 (Or.inl ⟨(pos + 1), [(97, nmC (c pos))], x_120, lz2_125, fs2_126, fw2_127, rfl, rfl, (by omega), (pOp_n hng hnm), ⟨Nat.le_refl _, by omega⟩, (hta9 ▸ hLa)⟩)
  · refine V_iload_n X 0 rfl dX9_readOperand_11 ?_
    refine V_bipush (v := (57 : Int32)) X (by decide) dX9_readOperand_12 ?_
    refine V_icmp_gt X rfl (show (57 : Int32).toInt = 57 from by decide) 24 dX9_readOperand_14 (by decide) (fun c_14 => ?_) (fun c_14 => ?_)
    · have hng : ¬ (48 ≤ c pos ∧ c pos ≤ 57) := by unfold PK at hpe; omega
      refine V_iload_n X 0 rfl dX9_readOperand_24 ?_
      refine V_callS (wr := [(lw, .inr (4, [.ref ws_, .ref ww, .ref wt, .ref wn, .ref wg, .ref wi, .int lz])), (ws_, .inl (Y 0, 128, .inl fs)), (ww, .inl (Y 0, 128, .inl fw)), (tp, .inr (8, [.ref tb, .int tl, .ref lw, .int pl, .int fa])), (tb, .inl (Y 0, 120, .inl fb))]) (st := []) X (c_X9_nameOf l D Y r_2) 1 gX9_readOperand_X9_nameOf rfl (by decide +kernel) ⟨rfl, rfl⟩ ⟨(by simp only [headSpec]; omega), (by simp only [headSpec]; omega)⟩ [] [0, 1, 2, 3, 4] rfl rfl rfl rfl (by decide) rfl rfl (Nat.le_of_ble_eq_true rfl) ⟨Nat.le_of_ble_eq_true rfl, Nat.le_of_ble_eq_true rfl⟩ dX9_readOperand_25 (fun v_25 w_25 h_25 => ?_)
      obtain ⟨r_132, rfl, rfl, htr_133⟩ := h_25
      refine V_to (pc' := 28) (ls' := [(2, .int r_2), (0, .ref tp), (1, .int op_)]) (st' := [.int r_132]) (ws' := [(lw, .inr (4, [.ref ws_, .ref ww, .ref wt, .ref wn, .ref wg, .ref wi, .int lz])), (ws_, .inl (Y 0, 128, .inl fs)), (ww, .inl (Y 0, 128, .inl fw)), (tp, .inr (8, [.ref tb, .int tl, .ref lw, .int pl, .int fa])), (tb, .inl (Y 0, 120, .inl fb))]) ?_ rfl rfl rfl rfl
      refine V_if_lt X htr_133 57 dX9_readOperand_28 (by decide) (fun c_28 => ?_) (fun c_28 => ?_)
      · have hnn : nmC (c pos) < 0 := by rw [← nmC_PK hpe]; omega
        refine V_iload_n X 0 rfl dX9_readOperand_57 ?_
        refine V_bipush (v := (40 : Int32)) X (by decide) dX9_readOperand_58 ?_
        refine V_icmp_eq X rfl (show (40 : Int32).toInt = 40 from by decide) 75 dX9_readOperand_60 (by decide) (fun c_60 => ?_) (fun c_60 => ?_)
        · refine V_iload_n X 2 rfl dX9_readOperand_75 ?_
          refine V_bipush (v := (6 : Int32)) X (by decide) dX9_readOperand_76 ?_
          refine V_icmp_ge X top_ (show (6 : Int32).toInt = 6 from by decide) 165 dX9_readOperand_78 (by decide) (fun c_78 => False.elim (by omega)) (fun c_78 => ?_)
          have hcr : c pos = r_2.toInt := by unfold PK at hpe; omega
          have hqlt := CHR_lt hCH (show c pos ≠ -1 by omega)
          refine V_aload_n X 1 rfl dX9_readOperand_81 ?_
          refine V_dup X rfl dX9_readOperand_82 ?_
          refine V_get (C := RX9) (T := TX9) (N := 5) (ci := 8) (v := .int pl) X in_X9_readOperand_X9 3 rfl rfl 3 (by decide) (List.mem_of_getElem? (i := 1) rfl) rfl rfl dX9_readOperand_83 ?_
          refine V_iconst (v := (1 : Int32)) X (by decide) dX9_readOperand_86 ?_
          refine V_iaddZ X tpl (show (1 : Int32).toInt = 1 from by decide) (by omega) (by omega) dX9_readOperand_87 (fun x_134 ex_134 tx_134 => ?_)
          have tx_134 : x_134.toInt = (((pos + 1) : Nat) : Int) := by omega
          refine V_put (C := RX9) (T := TX9) (N := 5) (ci := 8) (v := .int x_134) (ty := tyX9 3) (ws' := [(lw, .inr (4, [.ref ws_, .ref ww, .ref wt, .ref wn, .ref wg, .ref wi, .int lz])), (ws_, .inl (Y 0, 128, .inl fs)), (ww, .inl (Y 0, 128, .inl fw)), (tp, .inr (8, [.ref tb, .int tl, .ref lw, .int x_134, .int fa])), (tb, .inl (Y 0, 120, .inl fb))]) X in_X9_readOperand_X9 3 rfl rfl 3 (by decide) (List.mem_of_getElem? (i := 1) rfl) rfl tyX9 tyX9_ok nmX9 rfl (tyX9_ok 3 (by decide)) rfl rfl (Nat.le_of_ble_eq_true rfl) rfl dX9_readOperand_88 ?_
          refine V_iload_n X 0 rfl dX9_readOperand_91 ?_
          refine V_bipush (v := (40 : Int32)) X (by decide) dX9_readOperand_92 ?_
          refine V_icmp_ne X rfl (show (40 : Int32).toInt = 40 from by decide) 135 dX9_readOperand_94 (by decide) (fun c_94 => False.elim (by omega)) (fun c_94 => ?_)
          refine V_aload_n X 1 rfl dX9_readOperand_97 ?_
          refine V_iconst (v := (0 : Int32)) X (by decide) dX9_readOperand_98 ?_
          refine V_iload_n X 2 rfl dX9_readOperand_99 ?_
          refine V_iconst (v := (1 : Int32)) X (by decide) dX9_readOperand_100 ?_
          refine V_iaddZ X top_ (show (1 : Int32).toInt = 1 from by decide) (by omega) (by omega) dX9_readOperand_101 (fun x_135 ex_135 tx_135 => ?_)
          have tx_135 : x_135.toInt = (((opn + 1) : Nat) : Int) := by omega
          refine V_callV (C := RX9) (wr := []) (st := []) X (ihT l D Y tp tb lw tl x_134 fa (pos + 1) L c ws_ ww wt wn wg wi lz fs fw t0 fb (0 : Int32) 0 x_135 (opn + 1) ttl hL tx_134 (by omega) hCH hLC hfa (by omega) tx_135 (by omega) (by decide) (by decide)) 2 gX9_readOperand_X9_readTerms rfl (by decide +kernel) ⟨rfl, rfl⟩ ⟨(by simp only [headSpec]; omega), (by simp only [headSpec]; omega)⟩ [3, 4, 0, 1, 2] [] rfl rfl rfl rfl (by decide) (ci := 8) rfl rfl 0 rfl rfl rfl (Nat.le_of_ble_eq_true rfl) ⟨Nat.le_of_ble_eq_true rfl, Nat.le_of_ble_eq_true rfl⟩ dX9_readOperand_102 (fun v_102 w_102 h_102 => ?_)
          rcases h_102 with ⟨q_g, ts_g, pl2_139, lz2_140, fs2_141, fw2_142, rfl, rfl, tplg, hRg, hqbg, hLg⟩ | ⟨q_g, t1_g, pl2_149, fa2_150, lz2_151, fs2_152, fw2_153, rfl, rfl, tplg, hRg, hqLg, hDg, hLg⟩
          · refine V_to (pc' := 105) (ls' := [(2, .int r_2), (0, .ref tp), (1, .int op_)]) (st' := []) (ws' := [(tp, .inr (8, [.ref tb, .int tl, .ref lw, .int pl2_139, .int fa])), (tb, .inl (Y 0, 120, .inl fb)), (lw, .inr (4, [.ref ws_, .ref ww, .ref wt, .ref wn, .ref wg, .ref wi, .int lz2_140])), (ws_, .inl (Y 0, 128, .inl fs2_141)), (ww, .inl (Y 0, 128, .inl fw2_142))]) ?_ rfl rfl rfl rfl
            refine V_aload_n X 1 rfl dX9_readOperand_105 ?_
            refine V_callV (C := RX9) (wr := [(lw, .inr (4, [.ref ws_, .ref ww, .ref wt, .ref wn, .ref wg, .ref wi, .int lz2_140])), (ws_, .inl (Y 0, 128, .inl fs2_141)), (ww, .inl (Y 0, 128, .inl fw2_142))]) (st := []) X (c_X9_peek l D Y tp tb lw tl pl2_139 fa q_g L c fb ttl hL tplg (by omega) hCH) 0 gX9_readOperand_X9_peek rfl (by decide +kernel) ⟨rfl, rfl⟩ ⟨(by simp only [headSpec]; omega), (by simp only [headSpec]; omega)⟩ [0, 1] [2, 3, 4] rfl rfl rfl rfl (by decide) (ci := 8) rfl rfl 0 rfl rfl rfl (Nat.le_of_ble_eq_true rfl) ⟨Nat.le_of_ble_eq_true rfl, Nat.le_of_ble_eq_true rfl⟩ dX9_readOperand_106 (fun v_106 w_106 h_106 => ?_)
            obtain ⟨r_160, rfl, rfl, hhpk_161, hhpv_162⟩ := h_106
            refine V_to (pc' := 109) (ls' := [(2, .int r_2), (0, .ref tp), (1, .int op_)]) (st' := [.int r_160]) (ws' := [(lw, .inr (4, [.ref ws_, .ref ww, .ref wt, .ref wn, .ref wg, .ref wi, .int lz2_140])), (ws_, .inl (Y 0, 128, .inl fs2_141)), (ww, .inl (Y 0, 128, .inl fw2_142)), (tp, .inr (8, [.ref tb, .int tl, .ref lw, .int pl2_139, .int fa])), (tb, .inl (Y 0, 120, .inl fb))]) ?_ rfl rfl rfl rfl
            refine V_bipush (v := (41 : Int32)) X (by decide) dX9_readOperand_109 ?_
            have hpq := PK_0 hhpk_161 hfa
            refine V_icmp_ne X rfl (show (41 : Int32).toInt = 41 from by decide) 127 dX9_readOperand_111 (by decide) (fun c_111 => ?_) (fun c_111 => ?_)
            · refine V_aload_n X 1 rfl dX9_readOperand_127 ?_
              refine V_iconst (v := (1 : Int32)) X (by decide) dX9_readOperand_128 ?_
              refine V_put (C := RX9) (T := TX9) (N := 5) (ci := 8) (v := .int (1 : Int32)) (ty := tyX9 4) (ws' := [(lw, .inr (4, [.ref ws_, .ref ww, .ref wt, .ref wn, .ref wg, .ref wi, .int lz2_140])), (ws_, .inl (Y 0, 128, .inl fs2_141)), (ww, .inl (Y 0, 128, .inl fw2_142)), (tp, .inr (8, [.ref tb, .int tl, .ref lw, .int pl2_139, .int (1 : Int32)])), (tb, .inl (Y 0, 120, .inl fb))]) X in_X9_readOperand_X9 3 rfl rfl 4 (by decide) (List.mem_of_getElem? (i := 3) rfl) rfl tyX9 tyX9_ok nmX9 rfl (tyX9_ok 4 (by decide)) rfl rfl (Nat.le_of_ble_eq_true rfl) rfl dX9_readOperand_129 ?_
              refine V_goto X 170 (by decide) dX9_readOperand_132 ?_
              refine V_ws (ws' := [(tp, .inr (8, [.ref tb, .int tl, .ref lw, .int pl2_139, .int (1 : Int32)])), (tb, .inl (Y 0, 120, .inl fb)), (lw, .inr (4, [.ref ws_, .ref ww, .ref wt, .ref wn, .ref wg, .ref wi, .int lz2_140])), (ws_, .inl (Y 0, 128, .inl fs2_141)), (ww, .inl (Y 0, 128, .inl fw2_142))]) [3, 4, 0, 1, 2] rfl rfl rfl ?_
              exact V_vret X hr dX9_readOperand_170 (Or.inr (⟨q_g, (t0 ++ ts_g), pl2_139, (1 : Int32), lz2_140, fs2_141, fw2_142, rfl, rfl, (by omega), ((pOp_p (by omega)).trans (pPa_x hRg (by unfold PK at hpq; omega))), (by omega), (Or.inl (by decide)), hLg⟩))
            · have h41 : c q_g = 41 := by unfold PK at hpq; omega
              have hqlt2 := CHR_lt hCH (show c q_g ≠ -1 by omega)
              refine V_aload_n X 1 rfl dX9_readOperand_114 ?_
              refine V_dup X rfl dX9_readOperand_115 ?_
              refine V_get (C := RX9) (T := TX9) (N := 5) (ci := 8) (v := .int pl2_139) X in_X9_readOperand_X9 3 rfl rfl 3 (by decide) (List.mem_of_getElem? (i := 1) rfl) rfl rfl dX9_readOperand_116 ?_
              refine V_iconst (v := (1 : Int32)) X (by decide) dX9_readOperand_119 ?_
              refine V_iaddZ X tplg (show (1 : Int32).toInt = 1 from by decide) (by omega) (by omega) dX9_readOperand_120 (fun x_163 ex_163 tx_163 => ?_)
              have tx_163 : x_163.toInt = (((q_g + 1) : Nat) : Int) := by omega
              refine V_put (C := RX9) (T := TX9) (N := 5) (ci := 8) (v := .int x_163) (ty := tyX9 3) (ws' := [(lw, .inr (4, [.ref ws_, .ref ww, .ref wt, .ref wn, .ref wg, .ref wi, .int lz2_140])), (ws_, .inl (Y 0, 128, .inl fs2_141)), (ww, .inl (Y 0, 128, .inl fw2_142)), (tp, .inr (8, [.ref tb, .int tl, .ref lw, .int x_163, .int fa])), (tb, .inl (Y 0, 120, .inl fb))]) X in_X9_readOperand_X9 3 rfl rfl 3 (by decide) (List.mem_of_getElem? (i := 1) rfl) rfl tyX9 tyX9_ok nmX9 rfl (tyX9_ok 3 (by decide)) rfl rfl (Nat.le_of_ble_eq_true rfl) rfl dX9_readOperand_121 ?_
              refine V_goto X 170 (by decide) dX9_readOperand_124 ?_
              refine V_ws (ws' := [(tp, .inr (8, [.ref tb, .int tl, .ref lw, .int x_163, .int fa])), (tb, .inl (Y 0, 120, .inl fb)), (lw, .inr (4, [.ref ws_, .ref ww, .ref wt, .ref wn, .ref wg, .ref wi, .int lz2_140])), (ws_, .inl (Y 0, 128, .inl fs2_141)), (ww, .inl (Y 0, 128, .inl fw2_142))]) [3, 4, 0, 1, 2] rfl rfl rfl ?_
              exact V_vret X hr dX9_readOperand_170 (Or.inl ⟨(q_g + 1), ts_g, x_163, lz2_140, fs2_141, fw2_142, rfl, rfl, (by omega), ((pOp_p (by omega)).trans (pPa_s hRg h41)), ⟨by omega, by omega⟩, hLg⟩)
          · refine V_to (pc' := 105) (ls' := [(2, .int r_2), (0, .ref tp), (1, .int op_)]) (st' := []) (ws' := [(tp, .inr (8, [.ref tb, .int tl, .ref lw, .int pl2_149, .int fa2_150])), (tb, .inl (Y 0, 120, .inl fb)), (lw, .inr (4, [.ref ws_, .ref ww, .ref wt, .ref wn, .ref wg, .ref wi, .int lz2_151])), (ws_, .inl (Y 0, 128, .inl fs2_152)), (ww, .inl (Y 0, 128, .inl fw2_153))]) ?_ rfl rfl rfl rfl
            refine V_aload_n X 1 rfl dX9_readOperand_105 ?_
            refine V_callV (C := RX9) (wr := [(lw, .inr (4, [.ref ws_, .ref ww, .ref wt, .ref wn, .ref wg, .ref wi, .int lz2_151])), (ws_, .inl (Y 0, 128, .inl fs2_152)), (ww, .inl (Y 0, 128, .inl fw2_153))]) (st := []) X (c_X9_peek l D Y tp tb lw tl pl2_149 fa2_150 q_g L c fb ttl hL tplg hqLg hCH) 0 gX9_readOperand_X9_peek rfl (by decide +kernel) ⟨rfl, rfl⟩ ⟨(by simp only [headSpec]; omega), (by simp only [headSpec]; omega)⟩ [0, 1] [2, 3, 4] rfl rfl rfl rfl (by decide) (ci := 8) rfl rfl 0 rfl rfl rfl (Nat.le_of_ble_eq_true rfl) ⟨Nat.le_of_ble_eq_true rfl, Nat.le_of_ble_eq_true rfl⟩ dX9_readOperand_106 (fun v_106 w_106 h_106 => ?_)
            obtain ⟨r_165, rfl, rfl, hhpk_166, hhpv_167⟩ := h_106
            refine V_to (pc' := 109) (ls' := [(2, .int r_2), (0, .ref tp), (1, .int op_)]) (st' := [.int r_165]) (ws' := [(lw, .inr (4, [.ref ws_, .ref ww, .ref wt, .ref wn, .ref wg, .ref wi, .int lz2_151])), (ws_, .inl (Y 0, 128, .inl fs2_152)), (ww, .inl (Y 0, 128, .inl fw2_153)), (tp, .inr (8, [.ref tb, .int tl, .ref lw, .int pl2_149, .int fa2_150])), (tb, .inl (Y 0, 120, .inl fb))]) ?_ rfl rfl rfl rfl
            refine V_bipush (v := (41 : Int32)) X (by decide) dX9_readOperand_109 ?_
            have hpd := PK_dead hhpk_166 hDg
            refine V_icmp_ne X rfl (show (41 : Int32).toInt = 41 from by decide) 127 dX9_readOperand_111 (by decide) (fun c_111 => ?_) (fun c_111 => False.elim (by omega))
            refine V_aload_n X 1 rfl dX9_readOperand_127 ?_
            refine V_iconst (v := (1 : Int32)) X (by decide) dX9_readOperand_128 ?_
            refine V_put (C := RX9) (T := TX9) (N := 5) (ci := 8) (v := .int (1 : Int32)) (ty := tyX9 4) (ws' := [(lw, .inr (4, [.ref ws_, .ref ww, .ref wt, .ref wn, .ref wg, .ref wi, .int lz2_151])), (ws_, .inl (Y 0, 128, .inl fs2_152)), (ww, .inl (Y 0, 128, .inl fw2_153)), (tp, .inr (8, [.ref tb, .int tl, .ref lw, .int pl2_149, .int (1 : Int32)])), (tb, .inl (Y 0, 120, .inl fb))]) X in_X9_readOperand_X9 3 rfl rfl 4 (by decide) (List.mem_of_getElem? (i := 3) rfl) rfl tyX9 tyX9_ok nmX9 rfl (tyX9_ok 4 (by decide)) rfl rfl (Nat.le_of_ble_eq_true rfl) rfl dX9_readOperand_129 ?_
            refine V_goto X 170 (by decide) dX9_readOperand_132 ?_
            refine V_ws (ws' := [(tp, .inr (8, [.ref tb, .int tl, .ref lw, .int pl2_149, .int (1 : Int32)])), (tb, .inl (Y 0, 120, .inl fb)), (lw, .inr (4, [.ref ws_, .ref ww, .ref wt, .ref wn, .ref wg, .ref wi, .int lz2_151])), (ws_, .inl (Y 0, 128, .inl fs2_152)), (ww, .inl (Y 0, 128, .inl fw2_153))]) [3, 4, 0, 1, 2] rfl rfl rfl ?_
            exact V_vret X hr dX9_readOperand_170 (Or.inr (⟨q_g, t1_g, pl2_149, (1 : Int32), lz2_151, fs2_152, fw2_153, rfl, rfl, (by omega), ((pOp_p (by omega)).trans (pBd_n hRg)), (by omega), (Or.inl (by decide)), hLg⟩))
        · refine V_iload_n X 0 rfl dX9_readOperand_63 ?_
          refine V_bipush (v := (33 : Int32)) X (by decide) dX9_readOperand_64 ?_
          refine V_icmp_eq X rfl (show (33 : Int32).toInt = 33 from by decide) 75 dX9_readOperand_66 (by decide) (fun c_66 => ?_) (fun c_66 => ?_)
          · refine V_iload_n X 2 rfl dX9_readOperand_75 ?_
            refine V_bipush (v := (6 : Int32)) X (by decide) dX9_readOperand_76 ?_
            refine V_icmp_ge X top_ (show (6 : Int32).toInt = 6 from by decide) 165 dX9_readOperand_78 (by decide) (fun c_78 => False.elim (by omega)) (fun c_78 => ?_)
            have hcr : c pos = r_2.toInt := by unfold PK at hpe; omega
            have hqlt := CHR_lt hCH (show c pos ≠ -1 by omega)
            refine V_aload_n X 1 rfl dX9_readOperand_81 ?_
            refine V_dup X rfl dX9_readOperand_82 ?_
            refine V_get (C := RX9) (T := TX9) (N := 5) (ci := 8) (v := .int pl) X in_X9_readOperand_X9 3 rfl rfl 3 (by decide) (List.mem_of_getElem? (i := 1) rfl) rfl rfl dX9_readOperand_83 ?_
            refine V_iconst (v := (1 : Int32)) X (by decide) dX9_readOperand_86 ?_
            refine V_iaddZ X tpl (show (1 : Int32).toInt = 1 from by decide) (by omega) (by omega) dX9_readOperand_87 (fun x_168 ex_168 tx_168 => ?_)
            have tx_168 : x_168.toInt = (((pos + 1) : Nat) : Int) := by omega
            refine V_put (C := RX9) (T := TX9) (N := 5) (ci := 8) (v := .int x_168) (ty := tyX9 3) (ws' := [(lw, .inr (4, [.ref ws_, .ref ww, .ref wt, .ref wn, .ref wg, .ref wi, .int lz])), (ws_, .inl (Y 0, 128, .inl fs)), (ww, .inl (Y 0, 128, .inl fw)), (tp, .inr (8, [.ref tb, .int tl, .ref lw, .int x_168, .int fa])), (tb, .inl (Y 0, 120, .inl fb))]) X in_X9_readOperand_X9 3 rfl rfl 3 (by decide) (List.mem_of_getElem? (i := 1) rfl) rfl tyX9 tyX9_ok nmX9 rfl (tyX9_ok 3 (by decide)) rfl rfl (Nat.le_of_ble_eq_true rfl) rfl dX9_readOperand_88 ?_
            refine V_iload_n X 0 rfl dX9_readOperand_91 ?_
            refine V_bipush (v := (40 : Int32)) X (by decide) dX9_readOperand_92 ?_
            refine V_icmp_ne X rfl (show (40 : Int32).toInt = 40 from by decide) 135 dX9_readOperand_94 (by decide) (fun c_94 => ?_) (fun c_94 => False.elim (by omega))
            refine V_aload_n X 1 rfl dX9_readOperand_135 ?_
            refine V_iload_n X 2 rfl dX9_readOperand_136 ?_
            refine V_iconst (v := (1 : Int32)) X (by decide) dX9_readOperand_137 ?_
            refine V_iaddZ X top_ (show (1 : Int32).toInt = 1 from by decide) (by omega) (by omega) dX9_readOperand_138 (fun x_169 ex_169 tx_169 => ?_)
            have tx_169 : x_169.toInt = (((opn + 1) : Nat) : Int) := by omega
            refine V_callV (C := RX9) (wr := []) (st := []) X (ihO l D Y tp tb lw tl x_168 fa (pos + 1) L c ws_ ww wt wn wg wi lz fs fw t0 fb x_169 (opn + 1) ttl hL tx_168 (by omega) hCH hLC hfa (by omega) tx_169 (by omega)) 1 gX9_readOperand_X9_readOperand rfl (by decide +kernel) ⟨rfl, rfl⟩ ⟨(by simp only [headSpec]; omega), (by simp only [headSpec]; omega)⟩ [3, 4, 0, 1, 2] [] rfl rfl rfl rfl (by decide) (ci := 8) rfl rfl 0 rfl rfl rfl (Nat.le_of_ble_eq_true rfl) ⟨Nat.le_of_ble_eq_true rfl, Nat.le_of_ble_eq_true rfl⟩ dX9_readOperand_139 (fun v_139 w_139 h_139 => ?_)
            rcases h_139 with ⟨q_h, ts_h, pl2_173, lz2_174, fs2_175, fw2_176, rfl, rfl, tplh, hRh, hqbh, hLh⟩ | ⟨q_h, t1_h, pl2_183, fa2_184, lz2_185, fs2_186, fw2_187, rfl, rfl, tplh, hRh, hqLh, hDh, hLh⟩
            · refine V_to (pc' := 142) (ls' := [(2, .int r_2), (0, .ref tp), (1, .int op_)]) (st' := []) (ws' := [(tp, .inr (8, [.ref tb, .int tl, .ref lw, .int pl2_173, .int fa])), (tb, .inl (Y 0, 120, .inl fb)), (lw, .inr (4, [.ref ws_, .ref ww, .ref wt, .ref wn, .ref wg, .ref wi, .int lz2_174])), (ws_, .inl (Y 0, 128, .inl fs2_175)), (ww, .inl (Y 0, 128, .inl fw2_176))]) ?_ rfl rfl rfl rfl
              refine V_aload_n X 1 rfl dX9_readOperand_142 ?_
              refine V_get (C := RX9) (T := TX9) (N := 5) (ci := 8) (v := .ref lw) X in_X9_readOperand_X9 0 rfl rfl 2 (by decide) (List.mem_of_getElem? (i := 2) rfl) rfl rfl dX9_readOperand_143 ?_
              refine V_iload_n X 0 rfl dX9_readOperand_146 ?_
              refine V_bipush (v := (45 : Int32)) X (by decide) dX9_readOperand_147 ?_
              refine V_icmp_ne X rfl (show (45 : Int32).toInt = 45 from by decide) 157 dX9_readOperand_149 (by decide) (fun c_149 => ?_) (fun c_149 => False.elim (by omega))
              refine V_iload_n X 0 rfl dX9_readOperand_157 ?_
              refine V_iconst (v := (0 : Int32)) X (by decide) dX9_readOperand_158 ?_
              refine V_callV (C := RX5) (wr := [(tp, .inr (8, [.ref tb, .int tl, .ref lw, .int pl2_173, .int fa])), (tb, .inl (Y 0, 120, .inl fb))]) (st := []) X (c_X5_addT l D Y lw ws_ ww wt wn wg wi lz2_174 fs2_175 fw2_176 (t0 ++ ts_h) r_2 (0 : Int32) hLh) 2 gX9_readOperand_X5_add rfl (by decide +kernel) ⟨rfl, rfl⟩ ⟨(by simp only [headSpec]; omega), (by simp only [headSpec]; omega)⟩ [2, 3, 4] [0, 1] rfl rfl rfl rfl (by decide) (ci := 4) rfl rfl 0 rfl rfl rfl (Nat.le_of_ble_eq_true rfl) ⟨Nat.le_of_ble_eq_true rfl, Nat.le_of_ble_eq_true rfl⟩ dX9_readOperand_159 (fun v_159 w_159 h_159 => ?_)
              obtain ⟨lz2_194, fs2_195, fw2_196, t_b, rfl, rfl, hLb, htb⟩ := h_159
              refine V_to (pc' := 162) (ls' := [(2, .int r_2), (0, .ref tp), (1, .int op_)]) (st' := []) (ws' := [(tp, .inr (8, [.ref tb, .int tl, .ref lw, .int pl2_173, .int fa])), (tb, .inl (Y 0, 120, .inl fb)), (lw, .inr (4, [.ref ws_, .ref ww, .ref wt, .ref wn, .ref wg, .ref wi, .int lz2_194])), (ws_, .inl (Y 0, 128, .inl fs2_195)), (ww, .inl (Y 0, 128, .inl fw2_196))]) ?_ rfl rfl rfl rfl
              have hc_0 : (0 : Int32).toInt = 0 := by decide
              have htb9 : t_b = t0 ++ (ts_h ++ [((if c pos = 45 then 126 else 33), 0)]) := by have h9 := htb (by rw [List.length_append]; omega); rw [show (0 : Int32).toInt = 0 from by decide, show r_2.toInt = (if c pos = 45 then 126 else 33) from by rw [if_neg (by omega)]; omega] at h9; rw [h9, LC_app]
              refine V_goto X 170 (by decide) dX9_readOperand_162 ?_
              exact V_vret X hr dX9_readOperand_170 (Or.inl ⟨q_h, (ts_h ++ [((if c pos = 45 then 126 else 33), 0)]), pl2_173, lz2_194, fs2_195, fw2_196, rfl, rfl, (by omega), ((pOp_u (by omega)).trans (pNe_s hRh)), ⟨by rw [List.length_append]; show pos + (ts_h.length + 1) ≤ q_h; omega, hqbh.2⟩, (htb9 ▸ hLb)⟩)
            · refine V_to (pc' := 142) (ls' := [(2, .int r_2), (0, .ref tp), (1, .int op_)]) (st' := []) (ws' := [(tp, .inr (8, [.ref tb, .int tl, .ref lw, .int pl2_183, .int fa2_184])), (tb, .inl (Y 0, 120, .inl fb)), (lw, .inr (4, [.ref ws_, .ref ww, .ref wt, .ref wn, .ref wg, .ref wi, .int lz2_185])), (ws_, .inl (Y 0, 128, .inl fs2_186)), (ww, .inl (Y 0, 128, .inl fw2_187))]) ?_ rfl rfl rfl rfl
              refine V_aload_n X 1 rfl dX9_readOperand_142 ?_
              refine V_get (C := RX9) (T := TX9) (N := 5) (ci := 8) (v := .ref lw) X in_X9_readOperand_X9 0 rfl rfl 2 (by decide) (List.mem_of_getElem? (i := 2) rfl) rfl rfl dX9_readOperand_143 ?_
              refine V_iload_n X 0 rfl dX9_readOperand_146 ?_
              refine V_bipush (v := (45 : Int32)) X (by decide) dX9_readOperand_147 ?_
              refine V_icmp_ne X rfl (show (45 : Int32).toInt = 45 from by decide) 157 dX9_readOperand_149 (by decide) (fun c_149 => ?_) (fun c_149 => False.elim (by omega))
              refine V_iload_n X 0 rfl dX9_readOperand_157 ?_
              refine V_iconst (v := (0 : Int32)) X (by decide) dX9_readOperand_158 ?_
              refine V_callV (C := RX5) (wr := [(tp, .inr (8, [.ref tb, .int tl, .ref lw, .int pl2_183, .int fa2_184])), (tb, .inl (Y 0, 120, .inl fb))]) (st := []) X (c_X5_addT l D Y lw ws_ ww wt wn wg wi lz2_185 fs2_186 fw2_187 t1_h r_2 (0 : Int32) hLh) 2 gX9_readOperand_X5_add rfl (by decide +kernel) ⟨rfl, rfl⟩ ⟨(by simp only [headSpec]; omega), (by simp only [headSpec]; omega)⟩ [2, 3, 4] [0, 1] rfl rfl rfl rfl (by decide) (ci := 4) rfl rfl 0 rfl rfl rfl (Nat.le_of_ble_eq_true rfl) ⟨Nat.le_of_ble_eq_true rfl, Nat.le_of_ble_eq_true rfl⟩ dX9_readOperand_159 (fun v_159 w_159 h_159 => ?_)
              obtain ⟨lz2_201, fs2_202, fw2_203, t_b, rfl, rfl, hLb, htb⟩ := h_159
              refine V_to (pc' := 162) (ls' := [(2, .int r_2), (0, .ref tp), (1, .int op_)]) (st' := []) (ws' := [(tp, .inr (8, [.ref tb, .int tl, .ref lw, .int pl2_183, .int fa2_184])), (tb, .inl (Y 0, 120, .inl fb)), (lw, .inr (4, [.ref ws_, .ref ww, .ref wt, .ref wn, .ref wg, .ref wi, .int lz2_201])), (ws_, .inl (Y 0, 128, .inl fs2_202)), (ww, .inl (Y 0, 128, .inl fw2_203))]) ?_ rfl rfl rfl rfl
              have hc_0 : (0 : Int32).toInt = 0 := by decide
              refine V_goto X 170 (by decide) dX9_readOperand_162 ?_
              exact V_vret X hr dX9_readOperand_170 (Or.inr (⟨q_h, t_b, pl2_183, fa2_184, lz2_201, fs2_202, fw2_203, rfl, rfl, (by omega), ((pOp_u (by omega)).trans (pBd_n hRh)), (by omega), hDh, hLb⟩))
          · refine V_iload_n X 0 rfl dX9_readOperand_69 ?_
            refine V_bipush (v := (45 : Int32)) X (by decide) dX9_readOperand_70 ?_
            refine V_icmp_ne X rfl (show (45 : Int32).toInt = 45 from by decide) 165 dX9_readOperand_72 (by decide) (fun c_72 => ?_) (fun c_72 => ?_)
            · refine V_aload_n X 1 rfl dX9_readOperand_165 ?_
              refine V_iconst (v := (1 : Int32)) X (by decide) dX9_readOperand_166 ?_
              refine V_put (C := RX9) (T := TX9) (N := 5) (ci := 8) (v := .int (1 : Int32)) (ty := tyX9 4) (ws' := [(lw, .inr (4, [.ref ws_, .ref ww, .ref wt, .ref wn, .ref wg, .ref wi, .int lz])), (ws_, .inl (Y 0, 128, .inl fs)), (ww, .inl (Y 0, 128, .inl fw)), (tp, .inr (8, [.ref tb, .int tl, .ref lw, .int pl, .int (1 : Int32)])), (tb, .inl (Y 0, 120, .inl fb))]) X in_X9_readOperand_X9 3 rfl rfl 4 (by decide) (List.mem_of_getElem? (i := 3) rfl) rfl tyX9 tyX9_ok nmX9 rfl (tyX9_ok 4 (by decide)) rfl rfl (Nat.le_of_ble_eq_true rfl) rfl dX9_readOperand_167 ?_
              refine V_ws (ws' := [(tp, .inr (8, [.ref tb, .int tl, .ref lw, .int pl, .int (1 : Int32)])), (tb, .inl (Y 0, 120, .inl fb)), (lw, .inr (4, [.ref ws_, .ref ww, .ref wt, .ref wn, .ref wg, .ref wi, .int lz])), (ws_, .inl (Y 0, 128, .inl fs)), (ww, .inl (Y 0, 128, .inl fw))]) [3, 4, 0, 1, 2] rfl rfl rfl ?_
              exact V_vret X hr dX9_readOperand_170 (Or.inr (⟨pos, t0, pl, (1 : Int32), lz, fs, fw, rfl, rfl, (by omega), (pOp_x hng hnn (Or.inr (by unfold PK at hpe; omega))), (by omega), (Or.inl (by decide)), hLC⟩))
            · refine V_iload_n X 2 rfl dX9_readOperand_75 ?_
              refine V_bipush (v := (6 : Int32)) X (by decide) dX9_readOperand_76 ?_
              refine V_icmp_ge X top_ (show (6 : Int32).toInt = 6 from by decide) 165 dX9_readOperand_78 (by decide) (fun c_78 => False.elim (by omega)) (fun c_78 => ?_)
              have hcr : c pos = r_2.toInt := by unfold PK at hpe; omega
              have hqlt := CHR_lt hCH (show c pos ≠ -1 by omega)
              refine V_aload_n X 1 rfl dX9_readOperand_81 ?_
              refine V_dup X rfl dX9_readOperand_82 ?_
              refine V_get (C := RX9) (T := TX9) (N := 5) (ci := 8) (v := .int pl) X in_X9_readOperand_X9 3 rfl rfl 3 (by decide) (List.mem_of_getElem? (i := 1) rfl) rfl rfl dX9_readOperand_83 ?_
              refine V_iconst (v := (1 : Int32)) X (by decide) dX9_readOperand_86 ?_
              refine V_iaddZ X tpl (show (1 : Int32).toInt = 1 from by decide) (by omega) (by omega) dX9_readOperand_87 (fun x_207 ex_207 tx_207 => ?_)
              have tx_207 : x_207.toInt = (((pos + 1) : Nat) : Int) := by omega
              refine V_put (C := RX9) (T := TX9) (N := 5) (ci := 8) (v := .int x_207) (ty := tyX9 3) (ws' := [(lw, .inr (4, [.ref ws_, .ref ww, .ref wt, .ref wn, .ref wg, .ref wi, .int lz])), (ws_, .inl (Y 0, 128, .inl fs)), (ww, .inl (Y 0, 128, .inl fw)), (tp, .inr (8, [.ref tb, .int tl, .ref lw, .int x_207, .int fa])), (tb, .inl (Y 0, 120, .inl fb))]) X in_X9_readOperand_X9 3 rfl rfl 3 (by decide) (List.mem_of_getElem? (i := 1) rfl) rfl tyX9 tyX9_ok nmX9 rfl (tyX9_ok 3 (by decide)) rfl rfl (Nat.le_of_ble_eq_true rfl) rfl dX9_readOperand_88 ?_
              refine V_iload_n X 0 rfl dX9_readOperand_91 ?_
              refine V_bipush (v := (40 : Int32)) X (by decide) dX9_readOperand_92 ?_
              refine V_icmp_ne X rfl (show (40 : Int32).toInt = 40 from by decide) 135 dX9_readOperand_94 (by decide) (fun c_94 => ?_) (fun c_94 => False.elim (by omega))
              refine V_aload_n X 1 rfl dX9_readOperand_135 ?_
              refine V_iload_n X 2 rfl dX9_readOperand_136 ?_
              refine V_iconst (v := (1 : Int32)) X (by decide) dX9_readOperand_137 ?_
              refine V_iaddZ X top_ (show (1 : Int32).toInt = 1 from by decide) (by omega) (by omega) dX9_readOperand_138 (fun x_208 ex_208 tx_208 => ?_)
              have tx_208 : x_208.toInt = (((opn + 1) : Nat) : Int) := by omega
              refine V_callV (C := RX9) (wr := []) (st := []) X (ihO l D Y tp tb lw tl x_207 fa (pos + 1) L c ws_ ww wt wn wg wi lz fs fw t0 fb x_208 (opn + 1) ttl hL tx_207 (by omega) hCH hLC hfa (by omega) tx_208 (by omega)) 1 gX9_readOperand_X9_readOperand rfl (by decide +kernel) ⟨rfl, rfl⟩ ⟨(by simp only [headSpec]; omega), (by simp only [headSpec]; omega)⟩ [3, 4, 0, 1, 2] [] rfl rfl rfl rfl (by decide) (ci := 8) rfl rfl 0 rfl rfl rfl (Nat.le_of_ble_eq_true rfl) ⟨Nat.le_of_ble_eq_true rfl, Nat.le_of_ble_eq_true rfl⟩ dX9_readOperand_139 (fun v_139 w_139 h_139 => ?_)
              rcases h_139 with ⟨q_h, ts_h, pl2_212, lz2_213, fs2_214, fw2_215, rfl, rfl, tplh, hRh, hqbh, hLh⟩ | ⟨q_h, t1_h, pl2_222, fa2_223, lz2_224, fs2_225, fw2_226, rfl, rfl, tplh, hRh, hqLh, hDh, hLh⟩
              · refine V_to (pc' := 142) (ls' := [(2, .int r_2), (0, .ref tp), (1, .int op_)]) (st' := []) (ws' := [(tp, .inr (8, [.ref tb, .int tl, .ref lw, .int pl2_212, .int fa])), (tb, .inl (Y 0, 120, .inl fb)), (lw, .inr (4, [.ref ws_, .ref ww, .ref wt, .ref wn, .ref wg, .ref wi, .int lz2_213])), (ws_, .inl (Y 0, 128, .inl fs2_214)), (ww, .inl (Y 0, 128, .inl fw2_215))]) ?_ rfl rfl rfl rfl
                refine V_aload_n X 1 rfl dX9_readOperand_142 ?_
                refine V_get (C := RX9) (T := TX9) (N := 5) (ci := 8) (v := .ref lw) X in_X9_readOperand_X9 0 rfl rfl 2 (by decide) (List.mem_of_getElem? (i := 2) rfl) rfl rfl dX9_readOperand_143 ?_
                refine V_iload_n X 0 rfl dX9_readOperand_146 ?_
                refine V_bipush (v := (45 : Int32)) X (by decide) dX9_readOperand_147 ?_
                refine V_icmp_ne X rfl (show (45 : Int32).toInt = 45 from by decide) 157 dX9_readOperand_149 (by decide) (fun c_149 => False.elim (by omega)) (fun c_149 => ?_)
                refine V_bipush (v := (126 : Int32)) X (by decide) dX9_readOperand_152 ?_
                refine V_goto X 158 (by decide) dX9_readOperand_154 ?_
                refine V_iconst (v := (0 : Int32)) X (by decide) dX9_readOperand_158 ?_
                refine V_callV (C := RX5) (wr := [(tp, .inr (8, [.ref tb, .int tl, .ref lw, .int pl2_212, .int fa])), (tb, .inl (Y 0, 120, .inl fb))]) (st := []) X (c_X5_addT l D Y lw ws_ ww wt wn wg wi lz2_213 fs2_214 fw2_215 (t0 ++ ts_h) (126 : Int32) (0 : Int32) hLh) 2 gX9_readOperand_X5_add rfl (by decide +kernel) ⟨rfl, rfl⟩ ⟨(by simp only [headSpec]; omega), (by simp only [headSpec]; omega)⟩ [2, 3, 4] [0, 1] rfl rfl rfl rfl (by decide) (ci := 4) rfl rfl 0 rfl rfl rfl (Nat.le_of_ble_eq_true rfl) ⟨Nat.le_of_ble_eq_true rfl, Nat.le_of_ble_eq_true rfl⟩ dX9_readOperand_159 (fun v_159 w_159 h_159 => ?_)
                obtain ⟨lz2_233, fs2_234, fw2_235, t_b, rfl, rfl, hLb, htb⟩ := h_159
                refine V_to (pc' := 162) (ls' := [(2, .int r_2), (0, .ref tp), (1, .int op_)]) (st' := []) (ws' := [(tp, .inr (8, [.ref tb, .int tl, .ref lw, .int pl2_212, .int fa])), (tb, .inl (Y 0, 120, .inl fb)), (lw, .inr (4, [.ref ws_, .ref ww, .ref wt, .ref wn, .ref wg, .ref wi, .int lz2_233])), (ws_, .inl (Y 0, 128, .inl fs2_234)), (ww, .inl (Y 0, 128, .inl fw2_235))]) ?_ rfl rfl rfl rfl
                have hc_0 : (0 : Int32).toInt = 0 := by decide
                have hc_126 : (126 : Int32).toInt = 126 := by decide
                have htb9 : t_b = t0 ++ (ts_h ++ [((if c pos = 45 then 126 else 33), 0)]) := by have h9 := htb (by rw [List.length_append]; omega); rw [show (0 : Int32).toInt = 0 from by decide, show (126 : Int32).toInt = (if c pos = 45 then 126 else 33) from by rw [if_pos (by omega)]; decide] at h9; rw [h9, LC_app]
                refine V_goto X 170 (by decide) dX9_readOperand_162 ?_
                exact V_vret X hr dX9_readOperand_170 (Or.inl ⟨q_h, (ts_h ++ [((if c pos = 45 then 126 else 33), 0)]), pl2_212, lz2_233, fs2_234, fw2_235, rfl, rfl, (by omega), ((pOp_u (by omega)).trans (pNe_s hRh)), ⟨by rw [List.length_append]; show pos + (ts_h.length + 1) ≤ q_h; omega, hqbh.2⟩, (htb9 ▸ hLb)⟩)
              · refine V_to (pc' := 142) (ls' := [(2, .int r_2), (0, .ref tp), (1, .int op_)]) (st' := []) (ws' := [(tp, .inr (8, [.ref tb, .int tl, .ref lw, .int pl2_222, .int fa2_223])), (tb, .inl (Y 0, 120, .inl fb)), (lw, .inr (4, [.ref ws_, .ref ww, .ref wt, .ref wn, .ref wg, .ref wi, .int lz2_224])), (ws_, .inl (Y 0, 128, .inl fs2_225)), (ww, .inl (Y 0, 128, .inl fw2_226))]) ?_ rfl rfl rfl rfl
                refine V_aload_n X 1 rfl dX9_readOperand_142 ?_
                refine V_get (C := RX9) (T := TX9) (N := 5) (ci := 8) (v := .ref lw) X in_X9_readOperand_X9 0 rfl rfl 2 (by decide) (List.mem_of_getElem? (i := 2) rfl) rfl rfl dX9_readOperand_143 ?_
                refine V_iload_n X 0 rfl dX9_readOperand_146 ?_
                refine V_bipush (v := (45 : Int32)) X (by decide) dX9_readOperand_147 ?_
                refine V_icmp_ne X rfl (show (45 : Int32).toInt = 45 from by decide) 157 dX9_readOperand_149 (by decide) (fun c_149 => False.elim (by omega)) (fun c_149 => ?_)
                refine V_bipush (v := (126 : Int32)) X (by decide) dX9_readOperand_152 ?_
                refine V_goto X 158 (by decide) dX9_readOperand_154 ?_
                refine V_iconst (v := (0 : Int32)) X (by decide) dX9_readOperand_158 ?_
                refine V_callV (C := RX5) (wr := [(tp, .inr (8, [.ref tb, .int tl, .ref lw, .int pl2_222, .int fa2_223])), (tb, .inl (Y 0, 120, .inl fb))]) (st := []) X (c_X5_addT l D Y lw ws_ ww wt wn wg wi lz2_224 fs2_225 fw2_226 t1_h (126 : Int32) (0 : Int32) hLh) 2 gX9_readOperand_X5_add rfl (by decide +kernel) ⟨rfl, rfl⟩ ⟨(by simp only [headSpec]; omega), (by simp only [headSpec]; omega)⟩ [2, 3, 4] [0, 1] rfl rfl rfl rfl (by decide) (ci := 4) rfl rfl 0 rfl rfl rfl (Nat.le_of_ble_eq_true rfl) ⟨Nat.le_of_ble_eq_true rfl, Nat.le_of_ble_eq_true rfl⟩ dX9_readOperand_159 (fun v_159 w_159 h_159 => ?_)
                obtain ⟨lz2_240, fs2_241, fw2_242, t_b, rfl, rfl, hLb, htb⟩ := h_159
                refine V_to (pc' := 162) (ls' := [(2, .int r_2), (0, .ref tp), (1, .int op_)]) (st' := []) (ws' := [(tp, .inr (8, [.ref tb, .int tl, .ref lw, .int pl2_222, .int fa2_223])), (tb, .inl (Y 0, 120, .inl fb)), (lw, .inr (4, [.ref ws_, .ref ww, .ref wt, .ref wn, .ref wg, .ref wi, .int lz2_240])), (ws_, .inl (Y 0, 128, .inl fs2_241)), (ww, .inl (Y 0, 128, .inl fw2_242))]) ?_ rfl rfl rfl rfl
                have hc_0 : (0 : Int32).toInt = 0 := by decide
                have hc_126 : (126 : Int32).toInt = 126 := by decide
                refine V_goto X 170 (by decide) dX9_readOperand_162 ?_
                exact V_vret X hr dX9_readOperand_170 (Or.inr (⟨q_h, t_b, pl2_222, fa2_223, lz2_240, fs2_241, fw2_242, rfl, rfl, (by omega), ((pOp_u (by omega)).trans (pBd_n hRh)), (by omega), hDh, hLb⟩))
      · have hnm : 0 ≤ nmC (c pos) := by rw [← nmC_PK hpe]; omega
        have hnb := nmC_big hnm
        have hqlt := CHR_lt hCH (show c pos ≠ -1 by omega)
        refine V_aload_n X 1 rfl dX9_readOperand_31 ?_
        refine V_dup X rfl dX9_readOperand_32 ?_
        refine V_get (C := RX9) (T := TX9) (N := 5) (ci := 8) (v := .int pl) X in_X9_readOperand_X9 3 rfl rfl 3 (by decide) (List.mem_of_getElem? (i := 1) rfl) rfl rfl dX9_readOperand_33 ?_
        refine V_iconst (v := (1 : Int32)) X (by decide) dX9_readOperand_36 ?_
        refine V_iaddZ X tpl (show (1 : Int32).toInt = 1 from by decide) (by omega) (by omega) dX9_readOperand_37 (fun x_246 ex_246 tx_246 => ?_)
        have tx_246 : x_246.toInt = (((pos + 1) : Nat) : Int) := by omega
        refine V_put (C := RX9) (T := TX9) (N := 5) (ci := 8) (v := .int x_246) (ty := tyX9 3) (ws' := [(lw, .inr (4, [.ref ws_, .ref ww, .ref wt, .ref wn, .ref wg, .ref wi, .int lz])), (ws_, .inl (Y 0, 128, .inl fs)), (ww, .inl (Y 0, 128, .inl fw)), (tp, .inr (8, [.ref tb, .int tl, .ref lw, .int x_246, .int fa])), (tb, .inl (Y 0, 120, .inl fb))]) X in_X9_readOperand_X9 3 rfl rfl 3 (by decide) (List.mem_of_getElem? (i := 1) rfl) rfl tyX9 tyX9_ok nmX9 rfl (tyX9_ok 3 (by decide)) rfl rfl (Nat.le_of_ble_eq_true rfl) rfl dX9_readOperand_38 ?_
        refine V_aload_n X 1 rfl dX9_readOperand_41 ?_
        refine V_get (C := RX9) (T := TX9) (N := 5) (ci := 8) (v := .ref lw) X in_X9_readOperand_X9 3 rfl rfl 2 (by decide) (List.mem_of_getElem? (i := 2) rfl) rfl rfl dX9_readOperand_42 ?_
        refine V_bipush (v := (97 : Int32)) X (by decide) dX9_readOperand_45 ?_
        refine V_iload_n X 0 rfl dX9_readOperand_47 ?_
        refine V_callS (wr := [(lw, .inr (4, [.ref ws_, .ref ww, .ref wt, .ref wn, .ref wg, .ref wi, .int lz])), (ws_, .inl (Y 0, 128, .inl fs)), (ww, .inl (Y 0, 128, .inl fw)), (tp, .inr (8, [.ref tb, .int tl, .ref lw, .int x_246, .int fa])), (tb, .inl (Y 0, 120, .inl fb))]) (st := [.int (97 : Int32), .ref lw]) X (c_X9_nameOf l D Y r_2) 1 gX9_readOperand_X9_nameOf rfl (by decide +kernel) ⟨rfl, rfl⟩ ⟨(by simp only [headSpec]; omega), (by simp only [headSpec]; omega)⟩ [] [0, 1, 2, 3, 4] rfl rfl rfl rfl (by decide) rfl rfl (Nat.le_of_ble_eq_true rfl) ⟨Nat.le_of_ble_eq_true rfl, Nat.le_of_ble_eq_true rfl⟩ dX9_readOperand_48 (fun v_48 w_48 h_48 => ?_)
        obtain ⟨r_248, rfl, rfl, htr_249⟩ := h_48
        refine V_to (pc' := 51) (ls' := [(2, .int r_2), (0, .ref tp), (1, .int op_)]) (st' := [.int r_248, .int (97 : Int32), .ref lw]) (ws' := [(lw, .inr (4, [.ref ws_, .ref ww, .ref wt, .ref wn, .ref wg, .ref wi, .int lz])), (ws_, .inl (Y 0, 128, .inl fs)), (ww, .inl (Y 0, 128, .inl fw)), (tp, .inr (8, [.ref tb, .int tl, .ref lw, .int x_246, .int fa])), (tb, .inl (Y 0, 120, .inl fb))]) ?_ rfl rfl rfl rfl
        refine V_callV (C := RX5) (wr := [(tp, .inr (8, [.ref tb, .int tl, .ref lw, .int x_246, .int fa])), (tb, .inl (Y 0, 120, .inl fb))]) (st := []) X (c_X5_addT l D Y lw ws_ ww wt wn wg wi lz fs fw t0 (97 : Int32) r_248 hLC) 2 gX9_readOperand_X5_add rfl (by decide +kernel) ⟨rfl, rfl⟩ ⟨(by simp only [headSpec]; omega), (by simp only [headSpec]; omega)⟩ [0, 1, 2] [3, 4] rfl rfl rfl rfl (by decide) (ci := 4) rfl rfl 0 rfl rfl rfl (Nat.le_of_ble_eq_true rfl) ⟨Nat.le_of_ble_eq_true rfl, Nat.le_of_ble_eq_true rfl⟩ dX9_readOperand_51 (fun v_51 w_51 h_51 => ?_)
        obtain ⟨lz2_251, fs2_252, fw2_253, t_a, rfl, rfl, hLa, hta⟩ := h_51
        refine V_to (pc' := 54) (ls' := [(2, .int r_2), (0, .ref tp), (1, .int op_)]) (st' := []) (ws' := [(tp, .inr (8, [.ref tb, .int tl, .ref lw, .int x_246, .int fa])), (tb, .inl (Y 0, 120, .inl fb)), (lw, .inr (4, [.ref ws_, .ref ww, .ref wt, .ref wn, .ref wg, .ref wi, .int lz2_251])), (ws_, .inl (Y 0, 128, .inl fs2_252)), (ww, .inl (Y 0, 128, .inl fw2_253))]) ?_ rfl rfl rfl rfl
        have hc_97 : (97 : Int32).toInt = 97 := by decide
        have hta9 : t_a = t0 ++ [(97, nmC (c pos))] := by have h9 := hta (by omega); rw [show (97 : Int32).toInt = 97 from by decide, htr_249, nmC_PK hpe] at h9; exact h9
        refine V_goto X 170 (by decide) dX9_readOperand_54 ?_
        exact V_vret X hr dX9_readOperand_170 (Or.inl ⟨(pos + 1), [(97, nmC (c pos))], x_246, lz2_251, fs2_252, fw2_253, rfl, rfl, (by omega), (pOp_n hng hnm), ⟨Nat.le_refl _, by omega⟩, (hta9 ▸ hLa)⟩)
    · have hdg : 48 ≤ c pos ∧ c pos ≤ 57 := by unfold PK at hpe; omega
      refine V_aload_n X 1 rfl dX9_readOperand_17 ?_
      refine V_callV (C := RX9) (wr := []) (st := []) X (c_X9_readNumber l D Y tp tb lw tl pl fa pos L c ws_ ww wt wn wg wi lz fs fw t0 fb ttl hL tpl hpL hCH hLC hfa htp hdg) 0 gX9_readOperand_X9_readNumber rfl (by decide +kernel) ⟨rfl, rfl⟩ ⟨(by simp only [headSpec]; omega), (by simp only [headSpec]; omega)⟩ [3, 4, 0, 1, 2] [] rfl rfl rfl rfl (by decide) (ci := 8) rfl rfl 0 rfl rfl rfl (Nat.le_of_ble_eq_true rfl) ⟨Nat.le_of_ble_eq_true rfl, Nat.le_of_ble_eq_true rfl⟩ dX9_readOperand_18 (fun v_18 w_18 h_18 => ?_)
      obtain ⟨q_n, pl2_259, lz2_260, fs2_261, fw2_262, rfl, rfl, tpln, hqn, hqbn, hLn⟩ := h_18
      refine V_to (pc' := 21) (ls' := [(2, .int r_2), (0, .ref tp), (1, .int op_)]) (st' := []) (ws' := [(tp, .inr (8, [.ref tb, .int tl, .ref lw, .int pl2_259, .int fa])), (tb, .inl (Y 0, 120, .inl fb)), (lw, .inr (4, [.ref ws_, .ref ww, .ref wt, .ref wn, .ref wg, .ref wi, .int lz2_260])), (ws_, .inl (Y 0, 128, .inl fs2_261)), (ww, .inl (Y 0, 128, .inl fw2_262))]) ?_ rfl rfl rfl rfl
      by_cases h5 : 48 ≤ c q_n ∧ c q_n ≤ 57
      · refine V_goto X 170 (by decide) dX9_readOperand_21 ?_
        exact V_vret X hr dX9_readOperand_170 (Or.inr (⟨q_n, (t0 ++ [(48, (pDg c 4 pos 0).2)]), pl2_259, fa, lz2_260, fs2_261, fw2_262, rfl, rfl, (by omega), ((pOp_d hdg).trans (pFig_y hqn h5)), (by omega), (Or.inr h5), hLn⟩))
      · refine V_goto X 170 (by decide) dX9_readOperand_21 ?_
        exact V_vret X hr dX9_readOperand_170 (Or.inl ⟨q_n, [(48, (pDg c 4 pos 0).2)], pl2_259, lz2_260, fs2_261, fw2_262, rfl, rfl, (by omega), ((pOp_d hdg).trans (pFig_n hqn h5)), hqbn, hLn⟩)


set_option maxHeartbeats 4000000 in
set_option maxRecDepth 100000 in
theorem readT_all (k : Nat) (ihO : ∀ (l : Launch) (D : va_G) (Y : Nat → ClassId) (tp : Nat) (tb : Nat) (lw : Nat) (tl : Int32) (pl : Int32) (fa : Int32) (pos : Nat) (L : Nat) (c : Nat → Int) (ws_ : Nat) (ww : Nat) (wt : Nat) (wn : Nat) (wg : Nat) (wi : Nat) (lz : Int32) (fs : Nat → Int32) (fw : Nat → Int32) (t0 : List Tok) (fb : Nat → Int32) (op_ : Int32) (opn : Nat) (ttl : tl.toInt = ((L : Nat) : Int)) (hL : L ≤ 120) (tpl : pl.toInt = ((pos : Nat) : Int)) (hpL : pos ≤ L) (hCH : CHR fb L c) (hLC : LC fs fw lz t0) (hfa : fa.toInt = 0) (htp : t0.length ≤ pos) (top_ : op_.toInt = ((opn : Nat) : Int)) (hok : opn + k = 6), Mg l yX9_readOperand wsX9_readOperand ({ frames := 7 * (k) + 8, cells := 0, slots := 0, locals := 250 * (k) + 400 }) D Y [(tp, .inr (8, [.ref tb, .int tl, .ref lw, .int pl, .int fa])), (tb, .inl (Y 0, 120, .inl fb)), (lw, .inr (4, [.ref ws_, .ref ww, .ref wt, .ref wn, .ref wg, .ref wi, .int lz])), (ws_, .inl (Y 0, 128, .inl fs)), (ww, .inl (Y 0, 128, .inl fw))] [.ref tp, .int op_] 0 0 (fun vv__ ww__ => (∃ (q : Nat), ∃ (ts : List Tok), ∃ (pl2 : Int32), ∃ (lz2 : Int32), ∃ (fs2 : Nat → Int32), ∃ (fw2 : Nat → Int32), vv__ = none ∧ ww__ = [(tp, .inr (8, [.ref tb, .int tl, .ref lw, .int pl2, .int fa])), (tb, .inl (Y 0, 120, .inl fb)), (lw, .inr (4, [.ref ws_, .ref ww, .ref wt, .ref wn, .ref wg, .ref wi, .int lz2])), (ws_, .inl (Y 0, 128, .inl fs2)), (ww, .inl (Y 0, 128, .inl fw2))] ∧ (pl2.toInt = ((q : Nat) : Int)) ∧ (pOp c k pos = (q, some ts)) ∧ (pos + ts.length ≤ q ∧ q ≤ L) ∧ (LC fs2 fw2 lz2 (t0 ++ ts))) ∨ (∃ (q : Nat), ∃ (t1 : List Tok), ∃ (pl2 : Int32), ∃ (fa2 : Int32), ∃ (lz2 : Int32), ∃ (fs2 : Nat → Int32), ∃ (fw2 : Nat → Int32), vv__ = none ∧ ww__ = [(tp, .inr (8, [.ref tb, .int tl, .ref lw, .int pl2, .int fa2])), (tb, .inl (Y 0, 120, .inl fb)), (lw, .inr (4, [.ref ws_, .ref ww, .ref wt, .ref wn, .ref wg, .ref wi, .int lz2])), (ws_, .inl (Y 0, 128, .inl fs2)), (ww, .inl (Y 0, 128, .inl fw2))] ∧ (pl2.toInt = ((q : Nat) : Int)) ∧ (pOp c k pos = (q, none)) ∧ (q ≤ L) ∧ (fa2.toInt ≠ 0 ∨ (48 ≤ c q ∧ c q ≤ 57)) ∧ (LC fs2 fw2 lz2 t1)))) : ∀ j : Nat, ∀ (l : Launch) (D : va_G) (Y : Nat → ClassId) (tp : Nat) (tb : Nat) (lw : Nat) (tl : Int32) (pl : Int32) (fa : Int32) (pos : Nat) (L : Nat) (c : Nat → Int) (ws_ : Nat) (ww : Nat) (wt : Nat) (wn : Nat) (wg : Nat) (wi : Nat) (lz : Int32) (fs : Nat → Int32) (fw : Nat → Int32) (t0 : List Tok) (fb : Nat → Int32) (lv_ : Int32) (lev : Nat) (op_ : Int32) (opn : Nat) (ttl : tl.toInt = ((L : Nat) : Int)) (hL : L ≤ 120) (tpl : pl.toInt = ((pos : Nat) : Int)) (hpL : pos ≤ L) (hCH : CHR fb L c) (hLC : LC fs fw lz t0) (hfa : fa.toInt = 0) (htp : t0.length ≤ pos) (top_ : op_.toInt = ((opn : Nat) : Int)) (hok : opn + k = 6) (tlv_ : lv_.toInt = ((lev : Nat) : Int)) (hlj : lev + j = 5), Mg l yX9_readTerms wsX9_readTerms ({ frames := 7 * (k) + 9 + (j), cells := 0, slots := 0, locals := 250 * (k) + 430 + 30 * (j) }) D Y [(tp, .inr (8, [.ref tb, .int tl, .ref lw, .int pl, .int fa])), (tb, .inl (Y 0, 120, .inl fb)), (lw, .inr (4, [.ref ws_, .ref ww, .ref wt, .ref wn, .ref wg, .ref wi, .int lz])), (ws_, .inl (Y 0, 128, .inl fs)), (ww, .inl (Y 0, 128, .inl fw))] [.ref tp, .int lv_, .int op_] 0 0 (fun vv__ ww__ => (∃ (q : Nat), ∃ (ts : List Tok), ∃ (pl2 : Int32), ∃ (lz2 : Int32), ∃ (fs2 : Nat → Int32), ∃ (fw2 : Nat → Int32), vv__ = none ∧ ww__ = [(tp, .inr (8, [.ref tb, .int tl, .ref lw, .int pl2, .int fa])), (tb, .inl (Y 0, 120, .inl fb)), (lw, .inr (4, [.ref ws_, .ref ww, .ref wt, .ref wn, .ref wg, .ref wi, .int lz2])), (ws_, .inl (Y 0, 128, .inl fs2)), (ww, .inl (Y 0, 128, .inl fw2))] ∧ (pl2.toInt = ((q : Nat) : Int)) ∧ (pTm c (pOp c k) j pos = (q, some ts)) ∧ (pos + ts.length ≤ q ∧ q ≤ L) ∧ (LC fs2 fw2 lz2 (t0 ++ ts))) ∨ (∃ (q : Nat), ∃ (t1 : List Tok), ∃ (pl2 : Int32), ∃ (fa2 : Int32), ∃ (lz2 : Int32), ∃ (fs2 : Nat → Int32), ∃ (fw2 : Nat → Int32), vv__ = none ∧ ww__ = [(tp, .inr (8, [.ref tb, .int tl, .ref lw, .int pl2, .int fa2])), (tb, .inl (Y 0, 120, .inl fb)), (lw, .inr (4, [.ref ws_, .ref ww, .ref wt, .ref wn, .ref wg, .ref wi, .int lz2])), (ws_, .inl (Y 0, 128, .inl fs2)), (ww, .inl (Y 0, 128, .inl fw2))] ∧ (pl2.toInt = ((q : Nat) : Int)) ∧ (pTm c (pOp c k) j pos = (q, none)) ∧ (q ≤ L) ∧ (fa2.toInt ≠ 0 ∨ (48 ≤ c q ∧ c q ≤ 57)) ∧ (LC fs2 fw2 lz2 t1))) := by
  intro j
  induction j with
  | zero => intro l D Y tp tb lw tl pl fa pos L c ws_ ww wt wn wg wi lz fs fw t0 fb lv_ lev op_ opn ttl hL tpl hpL hCH hLC hfa htp top_ hok tlv_ hlj; exact c_X9_readTerms_0 l D Y tp tb lw tl pl fa pos L c ws_ ww wt wn wg wi lz fs fw t0 fb k lv_ lev op_ opn ttl hL tpl hpL hCH hLC hfa htp top_ hok tlv_ hlj ihO
  | succ j ihT => intro l D Y tp tb lw tl pl fa pos L c ws_ ww wt wn wg wi lz fs fw t0 fb lv_ lev op_ opn ttl hL tpl hpL hCH hLC hfa htp top_ hok tlv_ hlj; exact c_X9_readTerms_s l D Y tp tb lw tl pl fa pos L c ws_ ww wt wn wg wi lz fs fw t0 fb k j lv_ lev op_ opn ttl hL tpl hpL hCH hLC hfa htp top_ hok tlv_ hlj ihT
set_option maxHeartbeats 4000000 in
set_option maxRecDepth 100000 in
theorem readO_all : ∀ k : Nat, ∀ (l : Launch) (D : va_G) (Y : Nat → ClassId) (tp : Nat) (tb : Nat) (lw : Nat) (tl : Int32) (pl : Int32) (fa : Int32) (pos : Nat) (L : Nat) (c : Nat → Int) (ws_ : Nat) (ww : Nat) (wt : Nat) (wn : Nat) (wg : Nat) (wi : Nat) (lz : Int32) (fs : Nat → Int32) (fw : Nat → Int32) (t0 : List Tok) (fb : Nat → Int32) (op_ : Int32) (opn : Nat) (ttl : tl.toInt = ((L : Nat) : Int)) (hL : L ≤ 120) (tpl : pl.toInt = ((pos : Nat) : Int)) (hpL : pos ≤ L) (hCH : CHR fb L c) (hLC : LC fs fw lz t0) (hfa : fa.toInt = 0) (htp : t0.length ≤ pos) (top_ : op_.toInt = ((opn : Nat) : Int)) (hok : opn + k = 6), Mg l yX9_readOperand wsX9_readOperand ({ frames := 7 * (k) + 8, cells := 0, slots := 0, locals := 250 * (k) + 400 }) D Y [(tp, .inr (8, [.ref tb, .int tl, .ref lw, .int pl, .int fa])), (tb, .inl (Y 0, 120, .inl fb)), (lw, .inr (4, [.ref ws_, .ref ww, .ref wt, .ref wn, .ref wg, .ref wi, .int lz])), (ws_, .inl (Y 0, 128, .inl fs)), (ww, .inl (Y 0, 128, .inl fw))] [.ref tp, .int op_] 0 0 (fun vv__ ww__ => (∃ (q : Nat), ∃ (ts : List Tok), ∃ (pl2 : Int32), ∃ (lz2 : Int32), ∃ (fs2 : Nat → Int32), ∃ (fw2 : Nat → Int32), vv__ = none ∧ ww__ = [(tp, .inr (8, [.ref tb, .int tl, .ref lw, .int pl2, .int fa])), (tb, .inl (Y 0, 120, .inl fb)), (lw, .inr (4, [.ref ws_, .ref ww, .ref wt, .ref wn, .ref wg, .ref wi, .int lz2])), (ws_, .inl (Y 0, 128, .inl fs2)), (ww, .inl (Y 0, 128, .inl fw2))] ∧ (pl2.toInt = ((q : Nat) : Int)) ∧ (pOp c k pos = (q, some ts)) ∧ (pos + ts.length ≤ q ∧ q ≤ L) ∧ (LC fs2 fw2 lz2 (t0 ++ ts))) ∨ (∃ (q : Nat), ∃ (t1 : List Tok), ∃ (pl2 : Int32), ∃ (fa2 : Int32), ∃ (lz2 : Int32), ∃ (fs2 : Nat → Int32), ∃ (fw2 : Nat → Int32), vv__ = none ∧ ww__ = [(tp, .inr (8, [.ref tb, .int tl, .ref lw, .int pl2, .int fa2])), (tb, .inl (Y 0, 120, .inl fb)), (lw, .inr (4, [.ref ws_, .ref ww, .ref wt, .ref wn, .ref wg, .ref wi, .int lz2])), (ws_, .inl (Y 0, 128, .inl fs2)), (ww, .inl (Y 0, 128, .inl fw2))] ∧ (pl2.toInt = ((q : Nat) : Int)) ∧ (pOp c k pos = (q, none)) ∧ (q ≤ L) ∧ (fa2.toInt ≠ 0 ∨ (48 ≤ c q ∧ c q ≤ 57)) ∧ (LC fs2 fw2 lz2 t1))) := by
  intro k
  induction k with
  | zero => intro l D Y tp tb lw tl pl fa pos L c ws_ ww wt wn wg wi lz fs fw t0 fb op_ opn ttl hL tpl hpL hCH hLC hfa htp top_ hok; exact c_X9_readOperand_0 l D Y tp tb lw tl pl fa pos L c ws_ ww wt wn wg wi lz fs fw t0 fb op_ opn ttl hL tpl hpL hCH hLC hfa htp top_ hok
  | succ k ihO => intro l D Y tp tb lw tl pl fa pos L c ws_ ww wt wn wg wi lz fs fw t0 fb op_ opn ttl hL tpl hpL hCH hLC hfa htp top_ hok; exact c_X9_readOperand_s l D Y tp tb lw tl pl fa pos L c ws_ ww wt wn wg wi lz fs fw t0 fb k op_ opn ttl hL tpl hpL hCH hLC hfa htp top_ hok ihO (readT_all k ihO 5)

set_option maxHeartbeats 4000000 in
set_option maxRecDepth 100000 in
theorem c_X9_readTerms_00 (l : Launch) (D : va_G) (Y : Nat → ClassId) (tp : Nat) (tb : Nat) (lw : Nat) (tl : Int32) (pl : Int32) (fa : Int32) (pos : Nat) (L : Nat) (c : Nat → Int) (ws_ : Nat) (ww : Nat) (wt : Nat) (wn : Nat) (wg : Nat) (wi : Nat) (lz : Int32) (fs : Nat → Int32) (fw : Nat → Int32) (t0 : List Tok) (fb : Nat → Int32) (ttl : tl.toInt = ((L : Nat) : Int)) (hL : L ≤ 120) (tpl : pl.toInt = ((pos : Nat) : Int)) (hpL : pos ≤ L) (hCH : CHR fb L c) (hLC : LC fs fw lz t0) (hfa : fa.toInt = 0) (htp : t0.length ≤ pos) : Mg l yX9_readTerms wsX9_readTerms ({ frames := 7 * (6) + 9 + (5), cells := 0, slots := 0, locals := 250 * (6) + 430 + 30 * (5) }) D Y [(tp, .inr (8, [.ref tb, .int tl, .ref lw, .int pl, .int fa])), (tb, .inl (Y 0, 120, .inl fb)), (lw, .inr (4, [.ref ws_, .ref ww, .ref wt, .ref wn, .ref wg, .ref wi, .int lz])), (ws_, .inl (Y 0, 128, .inl fs)), (ww, .inl (Y 0, 128, .inl fw))] [.ref tp, .int (0 : Int32), .int (0 : Int32)] 0 0 (fun vv__ ww__ => (∃ (q : Nat), ∃ (ts : List Tok), ∃ (pl2 : Int32), ∃ (lz2 : Int32), ∃ (fs2 : Nat → Int32), ∃ (fw2 : Nat → Int32), vv__ = none ∧ ww__ = [(tp, .inr (8, [.ref tb, .int tl, .ref lw, .int pl2, .int fa])), (tb, .inl (Y 0, 120, .inl fb)), (lw, .inr (4, [.ref ws_, .ref ww, .ref wt, .ref wn, .ref wg, .ref wi, .int lz2])), (ws_, .inl (Y 0, 128, .inl fs2)), (ww, .inl (Y 0, 128, .inl fw2))] ∧ (pl2.toInt = ((q : Nat) : Int)) ∧ (pT0 c pos = (q, some ts)) ∧ (pos + ts.length ≤ q ∧ q ≤ L) ∧ (LC fs2 fw2 lz2 (t0 ++ ts))) ∨ (∃ (q : Nat), ∃ (t1 : List Tok), ∃ (pl2 : Int32), ∃ (fa2 : Int32), ∃ (lz2 : Int32), ∃ (fs2 : Nat → Int32), ∃ (fw2 : Nat → Int32), vv__ = none ∧ ww__ = [(tp, .inr (8, [.ref tb, .int tl, .ref lw, .int pl2, .int fa2])), (tb, .inl (Y 0, 120, .inl fb)), (lw, .inr (4, [.ref ws_, .ref ww, .ref wt, .ref wn, .ref wg, .ref wi, .int lz2])), (ws_, .inl (Y 0, 128, .inl fs2)), (ww, .inl (Y 0, 128, .inl fw2))] ∧ (pl2.toInt = ((q : Nat) : Int)) ∧ (pT0 c pos = (q, none)) ∧ (q ≤ L) ∧ (fa2.toInt ≠ 0 ∨ (48 ≤ c q ∧ c q ≤ 57)) ∧ (LC fs2 fw2 lz2 t1))) := readT_all 6 (readO_all 6) 5 l D Y tp tb lw tl pl fa pos L c ws_ ww wt wn wg wi lz fs fw t0 fb 0 0 0 0 ttl hL tpl hpL hCH hLC hfa htp (by decide) (by decide) (by decide) (by decide)
