
/-! ===== operands; a LINE; a TEXT ===== -/
theorem pOp_d {c : Nat → Int} {k pos : Nat} (h : 48 ≤ c pos ∧ c pos ≤ 57) : pOp c k pos = pFig c pos := by
  cases k with
  | zero => show (if _ then _ else _) = _; rw [if_pos h]
  | succ k => show (if _ then _ else _) = _; rw [if_pos h]
theorem pOp_n {c : Nat → Int} {k pos : Nat} (h0 : ¬ (48 ≤ c pos ∧ c pos ≤ 57)) (h : 0 ≤ nmC (c pos)) : pOp c k pos = (pos + 1, some [(97, nmC (c pos))]) := by
  cases k with
  | zero => show (if _ then _ else _) = _; rw [if_neg h0, if_pos h]
  | succ k => show (if _ then _ else _) = _; rw [if_neg h0, if_pos h]
theorem nmC_40 : nmC 40 = -1 := by decide
theorem pOp_p {c : Nat → Int} {k pos : Nat} (h : c pos = 40) : pOp c (k + 1) pos = pPa c (pTm c (pOp c k) 5 (pos + 1)) := by
  show (if _ then _ else _) = _
  rw [if_neg (by omega), if_neg (by rw [h]; decide), if_pos h]
theorem pOp_u {c : Nat → Int} {k pos : Nat} (h : c pos = 33 ∨ c pos = 45) : pOp c (k + 1) pos = pNe (if c pos = 45 then 126 else 33) (pOp c k (pos + 1)) := by
  show (if _ then _ else _) = _
  rw [if_neg (by omega), if_neg (by rcases h with h | h <;> (rw [h]; decide)), if_neg (by omega), if_pos h]
theorem pOp_x {c : Nat → Int} {k pos : Nat} (h0 : ¬ (48 ≤ c pos ∧ c pos ≤ 57)) (h1 : nmC (c pos) < 0) (h2 : k = 0 ∨ (c pos ≠ 40 ∧ c pos ≠ 33 ∧ c pos ≠ 45)) : pOp c k pos = (pos, none) := by
  cases k with
  | zero => show (if _ then _ else _) = _; rw [if_neg h0, if_neg (by omega)]
  | succ k => show (if _ then _ else _) = _; rw [if_neg h0, if_neg (by omega), if_neg (by omega), if_neg (by omega)]
theorem pFig_y {c : Nat → Int} {pos q : Nat} (hq : q = (pDg c 4 pos 0).1) (h : 48 ≤ c q ∧ c q ≤ 57) : pFig c pos = (q, none) := by unfold pFig; rw [← hq, if_pos h]
theorem pFig_n {c : Nat → Int} {pos q : Nat} (hq : q = (pDg c 4 pos 0).1) (h : ¬ (48 ≤ c q ∧ c q ≤ 57)) : pFig c pos = (q, some [(48, (pDg c 4 pos 0).2)]) := by unfold pFig; rw [← hq, if_neg h]
theorem pPa_s {c : Nat → Int} {r : PRs} {q : Nat} {ts : List Tok} (h : r = (q, some ts)) (h41 : c q = 41) : pPa c r = (q + 1, some ts) := by unfold pPa; rw [pBd_s h, if_pos h41]
theorem pPa_x {c : Nat → Int} {r : PRs} {q : Nat} {ts : List Tok} (h : r = (q, some ts)) (h41 : c q ≠ 41) : pPa c r = (q, none) := by unfold pPa; rw [pBd_s h, if_neg h41]
theorem pNe_s {v : Int} {r : PRs} {q : Nat} {ts : List Tok} (h : r = (q, some ts)) : pNe v r = (q, some (ts ++ [(v, 0)])) := pBd_s h
abbrev Lin : Type := Option (List Tok) × List Tok
def pT0 (c : Nat → Int) : Nat → PRs := pTm c (pOp c 6) 5
def pLn (c : Nat → Int) (pos : Nat) : Nat × Option Lin := match pT0 c pos with
  | (q, none) => (q, none)
  | (q, some ts) => if c q = 63 then (match pT0 c (q + 1) with
    | (q2, none) => (q2, none)
    | (q2, some t2) => (q2, some (some ts, t2))) else (q, some (none, ts))
def pTx (c : Nat → Int) : Nat → Nat → List Lin → Nat × Option (List Lin)
  | 0, q, ls => (q, some ls)
  | n + 1, q, ls => if c q = 59 then (match pLn c (q + 1) with
    | (q2, none) => (q2, none)
    | (q2, some x) => pTx c n q2 (ls ++ [x])) else (q, some ls)
def pAll (c : Nat → Int) : Nat × Option (List Lin) := match pLn c 0 with
  | (q, none) => (q, none)
  | (q, some x) => pTx c 120 q [x]
theorem pLn_n {c : Nat → Int} {pos q : Nat} (h : pT0 c pos = (q, none)) : pLn c pos = (q, none) := by unfold pLn; rw [h]
theorem pLn_1 {c : Nat → Int} {pos q : Nat} {ts : List Tok} (h : pT0 c pos = (q, some ts)) (hc : c q ≠ 63) : pLn c pos = (q, some (none, ts)) := by unfold pLn; rw [h]; show (if _ then _ else _) = _; rw [if_neg hc]
theorem pLn_2n {c : Nat → Int} {pos q q2 : Nat} {ts : List Tok} (h : pT0 c pos = (q, some ts)) (hc : c q = 63) (h2 : pT0 c (q + 1) = (q2, none)) : pLn c pos = (q2, none) := by unfold pLn; rw [h]; show (if _ then _ else _) = _; rw [if_pos hc, h2]
theorem pLn_2 {c : Nat → Int} {pos q q2 : Nat} {ts t2 : List Tok} (h : pT0 c pos = (q, some ts)) (hc : c q = 63) (h2 : pT0 c (q + 1) = (q2, some t2)) : pLn c pos = (q2, some (some ts, t2)) := by unfold pLn; rw [h]; show (if _ then _ else _) = _; rw [if_pos hc, h2]
theorem pTx_x {c : Nat → Int} {n q : Nat} {ls : List Lin} {P : Nat × Option (List Lin)} (h : pTx c n q ls = P) (hc : n = 0 ∨ c q ≠ 59) : P = (q, some ls) := by
  cases n with
  | zero => exact h.symm
  | succ n => rw [pTx, if_neg (hc.resolve_left (Nat.succ_ne_zero n))] at h; exact h.symm
theorem pTx_n {c : Nat → Int} {n q q2 : Nat} {ls : List Lin} {P : Nat × Option (List Lin)} (h : pTx c n q ls = P) (hn : 0 < n) (hc : c q = 59) (h2 : pLn c (q + 1) = (q2, none)) : P = (q2, none) := by
  cases n with
  | zero => omega
  | succ n => rw [pTx, if_pos hc, h2] at h; exact h.symm
theorem pTx_y {c : Nat → Int} {n q q2 : Nat} {ls : List Lin} {x : Lin} {P : Nat × Option (List Lin)} (h : pTx c n q ls = P) (hn : 0 < n) (hc : c q = 59) (h2 : pLn c (q + 1) = (q2, some x)) : pTx c (n - 1) q2 (ls ++ [x]) = P := by
  cases n with
  | zero => omega
  | succ n => rw [pTx, if_pos hc, h2] at h; exact h
theorem pAll_n {c : Nat → Int} {q : Nat} (h : pLn c 0 = (q, none)) : pAll c = (q, none) := by unfold pAll; rw [h]
theorem pAll_s {c : Nat → Int} {q : Nat} {x : Lin} (h : pLn c 0 = (q, some x)) : pAll c = pTx c 120 q [x] := by unfold pAll; rw [h]
/-- the steps of a LINE that begins with step n -/
def codeL (n : Nat) : Lin → List Tok
  | (none, ts) => ts ++ [(59, 0)]
  | (some t, ts) => t ++ ((63, ((n + t.length + 1 + ts.length + 1 : Nat) : Int)) :: (ts ++ [(59, 0)]))
def codeT (ls : List Lin) : List Tok := ls.foldl (fun a x => a ++ codeL a.length x) []
theorem codeT_s (ls : List Lin) (x : Lin) : codeT (ls ++ [x]) = codeT ls ++ codeL (codeT ls).length x := by unfold codeT; rw [List.foldl_append]; rfl
theorem in_X9_readOperand_X9 : ∀ w ∈ wsX90, w ∈ wsX9_readOperand := fun w h => List.mem_cons_of_mem _ (List.mem_append_left _ (List.mem_append_right _ h))
set_option maxHeartbeats 4000000 in
set_option maxRecDepth 100000 in
theorem c_X9_readOperand_0 (l : Launch) (D : va_G) (Y : Nat → ClassId) (tp : Nat) (tb : Nat) (lw : Nat) (tl : Int32) (pl : Int32) (fa : Int32) (pos : Nat) (L : Nat) (c : Nat → Int) (ws_ : Nat) (ww : Nat) (wt : Nat) (wn : Nat) (wg : Nat) (wi : Nat) (lz : Int32) (fs : Nat → Int32) (fw : Nat → Int32) (t0 : List Tok) (fb : Nat → Int32) (op_ : Int32) (opn : Nat) (ttl : tl.toInt = ((L : Nat) : Int)) (hL : L ≤ 120) (tpl : pl.toInt = ((pos : Nat) : Int)) (hpL : pos ≤ L) (hCH : CHR fb L c) (hLC : LC fs fw lz t0) (hfa : fa.toInt = 0) (htp : t0.length ≤ pos) (top_ : op_.toInt = ((opn : Nat) : Int)) (hok : opn + 0 = 6) : Mg l yX9_readOperand wsX9_readOperand ({ frames := 7 * (0) + 8, cells := 0, slots := 0, locals := 250 * (0) + 400 }) D Y [(tp, .inr (8, [.ref tb, .int tl, .ref lw, .int pl, .int fa])), (tb, .inl (Y 0, 120, .inl fb)), (lw, .inr (4, [.ref ws_, .ref ww, .ref wt, .ref wn, .ref wg, .ref wi, .int lz])), (ws_, .inl (Y 0, 128, .inl fs)), (ww, .inl (Y 0, 128, .inl fw))] [.ref tp, .int op_] 0 0 (fun vv__ ww__ => (∃ (q : Nat), ∃ (ts : List Tok), ∃ (pl2 : Int32), ∃ (lz2 : Int32), ∃ (fs2 : Nat → Int32), ∃ (fw2 : Nat → Int32), vv__ = none ∧ ww__ = [(tp, .inr (8, [.ref tb, .int tl, .ref lw, .int pl2, .int fa])), (tb, .inl (Y 0, 120, .inl fb)), (lw, .inr (4, [.ref ws_, .ref ww, .ref wt, .ref wn, .ref wg, .ref wi, .int lz2])), (ws_, .inl (Y 0, 128, .inl fs2)), (ww, .inl (Y 0, 128, .inl fw2))] ∧ (pl2.toInt = ((q : Nat) : Int)) ∧ (pOp c 0 pos = (q, some ts)) ∧ (pos + ts.length ≤ q ∧ q ≤ L) ∧ (LC fs2 fw2 lz2 (t0 ++ ts))) ∨ (∃ (q : Nat), ∃ (t1 : List Tok), ∃ (pl2 : Int32), ∃ (fa2 : Int32), ∃ (lz2 : Int32), ∃ (fs2 : Nat → Int32), ∃ (fw2 : Nat → Int32), vv__ = none ∧ ww__ = [(tp, .inr (8, [.ref tb, .int tl, .ref lw, .int pl2, .int fa2])), (tb, .inl (Y 0, 120, .inl fb)), (lw, .inr (4, [.ref ws_, .ref ww, .ref wt, .ref wn, .ref wg, .ref wi, .int lz2])), (ws_, .inl (Y 0, 128, .inl fs2)), (ww, .inl (Y 0, 128, .inl fw2))] ∧ (pl2.toInt = ((q : Nat) : Int)) ∧ (pOp c 0 pos = (q, none)) ∧ (q ≤ L) ∧ (fa2.toInt ≠ 0 ∨ (48 ≤ c q ∧ c q ≤ 57)) ∧ (LC fs2 fw2 lz2 t1))) := by
  refine Mg_of (cc := cX9_readOperand) (maxL := 3) (ret := none) (ls0 := [(0, .ref tp), (1, .int op_)]) RX9 (by decide) rfl rfl rfl (Nat.le_of_ble_eq_true rfl) (fun p__ e__ s__ m__ b__ t__ c__ X hr hn => ?_)
  refine V_aload_n X 0 rfl dX9_readOperand_0 ?_
  refine V_callV (C := RX9) (wr := [(lw, .inr (4, [.ref ws_, .ref ww, .ref wt, .ref wn, .ref wg, .ref wi, .int lz])), (ws_, .inl (Y 0, 128, .inl fs)), (ww, .inl (Y 0, 128, .inl fw))]) (st := []) X (c_X9_peek l D Y tp tb lw tl pl fa pos L c fb ttl hL tpl hpL hCH) 0 gX9_readOperand_X9_peek rfl (by decide +kernel) ⟨rfl, rfl⟩ ⟨(by simp only [headSpec]; omega), (by simp only [headSpec]; omega)⟩ [0, 1] [2, 3, 4] rfl rfl rfl rfl (by decide) (ci := 8) rfl rfl 0 rfl rfl rfl (Nat.le_of_ble_eq_true rfl) ⟨Nat.le_of_ble_eq_true rfl, Nat.le_of_ble_eq_true rfl⟩ dX9_readOperand_1 (fun v_1 w_1 h_1 => ?_)
  obtain ⟨r_2, rfl, rfl, hhpk_3⟩ := h_1
  refine V_to (pc' := 4) (ls' := [(0, .ref tp), (1, .int op_)]) (st' := [.int r_2]) (ws' := [(lw, .inr (4, [.ref ws_, .ref ww, .ref wt, .ref wn, .ref wg, .ref wi, .int lz])), (ws_, .inl (Y 0, 128, .inl fs)), (ww, .inl (Y 0, 128, .inl fw)), (tp, .inr (8, [.ref tb, .int tl, .ref lw, .int pl, .int fa])), (tb, .inl (Y 0, 120, .inl fb))]) ?_ rfl rfl rfl rfl
  have hpe := PK_0 hhpk_3 hfa
  refine V_istore_n (ls' := [(2, .int r_2), (0, .ref tp), (1, .int op_)]) X (by decide) rfl dX9_readOperand_4 ?_
  refine V_iload_n X 0 rfl dX9_readOperand_5 ?_
  refine V_bipush (v := (48 : Int32)) X (by decide) dX9_readOperand_6 ?_
  refine V_icmp_lt X rfl (show (48 : Int32).toInt = 48 from by decide) 24 dX9_readOperand_8 (by decide) (fun c_8 => ?_) (fun c_8 => ?_)
  · have hng : ¬ (48 ≤ c pos ∧ c pos ≤ 57) := by unfold PK at hpe; omega
    refine V_iload_n X 0 rfl dX9_readOperand_24 ?_
    refine V_callS (wr := [(lw, .inr (4, [.ref ws_, .ref ww, .ref wt, .ref wn, .ref wg, .ref wi, .int lz])), (ws_, .inl (Y 0, 128, .inl fs)), (ww, .inl (Y 0, 128, .inl fw)), (tp, .inr (8, [.ref tb, .int tl, .ref lw, .int pl, .int fa])), (tb, .inl (Y 0, 120, .inl fb))]) (st := []) X (c_X9_nameOf l D Y r_2) 1 gX9_readOperand_X9_nameOf rfl (by decide +kernel) ⟨rfl, rfl⟩ ⟨(by simp only [headSpec]; omega), (by simp only [headSpec]; omega)⟩ [] [0, 1, 2, 3, 4] rfl rfl rfl rfl (by decide) rfl rfl (Nat.le_of_ble_eq_true rfl) ⟨Nat.le_of_ble_eq_true rfl, Nat.le_of_ble_eq_true rfl⟩ dX9_readOperand_25 (fun v_25 w_25 h_25 => ?_)
    obtain ⟨r_5, rfl, rfl, htr_6⟩ := h_25
    refine V_to (pc' := 28) (ls' := [(2, .int r_2), (0, .ref tp), (1, .int op_)]) (st' := [.int r_5]) (ws' := [(lw, .inr (4, [.ref ws_, .ref ww, .ref wt, .ref wn, .ref wg, .ref wi, .int lz])), (ws_, .inl (Y 0, 128, .inl fs)), (ww, .inl (Y 0, 128, .inl fw)), (tp, .inr (8, [.ref tb, .int tl, .ref lw, .int pl, .int fa])), (tb, .inl (Y 0, 120, .inl fb))]) ?_ rfl rfl rfl rfl
    refine V_if_lt X htr_6 57 dX9_readOperand_28 (by decide) (fun c_28 => ?_) (fun c_28 => ?_)
    · have hnn : nmC (c pos) < 0 := by rw [← nmC_PK hpe]; omega
      refine V_iload_n X 0 rfl dX9_readOperand_57 ?_
      refine V_bipush (v := (40 : Int32)) X (by decide) dX9_readOperand_58 ?_
      refine V_icmp_eq X rfl (show (40 : Int32).toInt = 40 from by decide) 75 dX9_readOperand_60 (by decide) (fun c_60 => ?_) (fun c_60 => ?_)
      · refine V_iload_n X 2 rfl dX9_readOperand_75 ?_
        refine V_bipush (v := (6 : Int32)) X (by decide) dX9_readOperand_76 ?_
        refine V_icmp_ge X top_ (show (6 : Int32).toInt = 6 from by decide) 165 dX9_readOperand_78 (by decide) (fun c_78 => ?_) (fun c_78 => False.elim (by omega))
        refine V_aload_n X 1 rfl dX9_readOperand_165 ?_
        refine V_iconst (v := (1 : Int32)) X (by decide) dX9_readOperand_166 ?_
        refine V_put (C := RX9) (T := TX9) (N := 5) (ci := 8) (v := .int (1 : Int32)) (ty := tyX9 4) (ws' := [(lw, .inr (4, [.ref ws_, .ref ww, .ref wt, .ref wn, .ref wg, .ref wi, .int lz])), (ws_, .inl (Y 0, 128, .inl fs)), (ww, .inl (Y 0, 128, .inl fw)), (tp, .inr (8, [.ref tb, .int tl, .ref lw, .int pl, .int (1 : Int32)])), (tb, .inl (Y 0, 120, .inl fb))]) X in_X9_readOperand_X9 3 rfl rfl 4 (by decide) (List.mem_of_getElem? (i := 3) rfl) rfl tyX9 tyX9_ok nmX9 rfl (tyX9_ok 4 (by decide)) rfl rfl (Nat.le_of_ble_eq_true rfl) rfl dX9_readOperand_167 ?_
        refine V_ws (ws' := [(tp, .inr (8, [.ref tb, .int tl, .ref lw, .int pl, .int (1 : Int32)])), (tb, .inl (Y 0, 120, .inl fb)), (lw, .inr (4, [.ref ws_, .ref ww, .ref wt, .ref wn, .ref wg, .ref wi, .int lz])), (ws_, .inl (Y 0, 128, .inl fs)), (ww, .inl (Y 0, 128, .inl fw))]) [3, 4, 0, 1, 2] rfl rfl rfl ?_
        exact V_vret X hr dX9_readOperand_170 (Or.inr (⟨pos, t0, pl, (1 : Int32), lz, fs, fw, rfl, rfl, (by omega), (pOp_x hng hnn (Or.inl rfl)), (by omega), (Or.inl (by decide)), hLC⟩))
      · refine V_iload_n X 0 rfl dX9_readOperand_63 ?_
        refine V_bipush (v := (33 : Int32)) X (by decide) dX9_readOperand_64 ?_
        refine V_icmp_eq X rfl (show (33 : Int32).toInt = 33 from by decide) 75 dX9_readOperand_66 (by decide) (fun c_66 => ?_) (fun c_66 => ?_)
        · refine V_iload_n X 2 rfl dX9_readOperand_75 ?_
          refine V_bipush (v := (6 : Int32)) X (by decide) dX9_readOperand_76 ?_
          refine V_icmp_ge X top_ (show (6 : Int32).toInt = 6 from by decide) 165 dX9_readOperand_78 (by decide) (fun c_78 => ?_) (fun c_78 => False.elim (by omega))
          refine V_aload_n X 1 rfl dX9_readOperand_165 ?_
          refine V_iconst (v := (1 : Int32)) X (by decide) dX9_readOperand_166 ?_
          refine V_put (C := RX9) (T := TX9) (N := 5) (ci := 8) (v := .int (1 : Int32)) (ty := tyX9 4) (ws' := [(lw, .inr (4, [.ref ws_, .ref ww, .ref wt, .ref wn, .ref wg, .ref wi, .int lz])), (ws_, .inl (Y 0, 128, .inl fs)), (ww, .inl (Y 0, 128, .inl fw)), (tp, .inr (8, [.ref tb, .int tl, .ref lw, .int pl, .int (1 : Int32)])), (tb, .inl (Y 0, 120, .inl fb))]) X in_X9_readOperand_X9 3 rfl rfl 4 (by decide) (List.mem_of_getElem? (i := 3) rfl) rfl tyX9 tyX9_ok nmX9 rfl (tyX9_ok 4 (by decide)) rfl rfl (Nat.le_of_ble_eq_true rfl) rfl dX9_readOperand_167 ?_
          refine V_ws (ws' := [(tp, .inr (8, [.ref tb, .int tl, .ref lw, .int pl, .int (1 : Int32)])), (tb, .inl (Y 0, 120, .inl fb)), (lw, .inr (4, [.ref ws_, .ref ww, .ref wt, .ref wn, .ref wg, .ref wi, .int lz])), (ws_, .inl (Y 0, 128, .inl fs)), (ww, .inl (Y 0, 128, .inl fw))]) [3, 4, 0, 1, 2] rfl rfl rfl ?_
          exact V_vret X hr dX9_readOperand_170 (Or.inr (⟨pos, t0, pl, (1 : Int32), lz, fs, fw, rfl, rfl, (by omega), (pOp_x hng hnn (Or.inl rfl)), (by omega), (Or.inl (by decide)), hLC⟩))
        · refine V_iload_n X 0 rfl dX9_readOperand_69 ?_
          refine V_bipush (v := (45 : Int32)) X (by decide) dX9_readOperand_70 ?_
          refine V_icmp_ne X rfl (show (45 : Int32).toInt = 45 from by decide) 165 dX9_readOperand_72 (by decide) (fun c_72 => ?_) (fun c_72 => ?_)
          · refine V_aload_n X 1 rfl dX9_readOperand_165 ?_
            refine V_iconst (v := (1 : Int32)) X (by decide) dX9_readOperand_166 ?_
            refine V_put (C := RX9) (T := TX9) (N := 5) (ci := 8) (v := .int (1 : Int32)) (ty := tyX9 4) (ws' := [(lw, .inr (4, [.ref ws_, .ref ww, .ref wt, .ref wn, .ref wg, .ref wi, .int lz])), (ws_, .inl (Y 0, 128, .inl fs)), (ww, .inl (Y 0, 128, .inl fw)), (tp, .inr (8, [.ref tb, .int tl, .ref lw, .int pl, .int (1 : Int32)])), (tb, .inl (Y 0, 120, .inl fb))]) X in_X9_readOperand_X9 3 rfl rfl 4 (by decide) (List.mem_of_getElem? (i := 3) rfl) rfl tyX9 tyX9_ok nmX9 rfl (tyX9_ok 4 (by decide)) rfl rfl (Nat.le_of_ble_eq_true rfl) rfl dX9_readOperand_167 ?_
            refine V_ws (ws' := [(tp, .inr (8, [.ref tb, .int tl, .ref lw, .int pl, .int (1 : Int32)])), (tb, .inl (Y 0, 120, .inl fb)), (lw, .inr (4, [.ref ws_, .ref ww, .ref wt, .ref wn, .ref wg, .ref wi, .int lz])), (ws_, .inl (Y 0, 128, .inl fs)), (ww, .inl (Y 0, 128, .inl fw))]) [3, 4, 0, 1, 2] rfl rfl rfl ?_
            exact V_vret X hr dX9_readOperand_170 (Or.inr (⟨pos, t0, pl, (1 : Int32), lz, fs, fw, rfl, rfl, (by omega), (pOp_x hng hnn (Or.inr (by unfold PK at hpe; omega))), (by omega), (Or.inl (by decide)), hLC⟩))
          · refine V_iload_n X 2 rfl dX9_readOperand_75 ?_
            refine V_bipush (v := (6 : Int32)) X (by decide) dX9_readOperand_76 ?_
            refine V_icmp_ge X top_ (show (6 : Int32).toInt = 6 from by decide) 165 dX9_readOperand_78 (by decide) (fun c_78 => ?_) (fun c_78 => False.elim (by omega))
            refine V_aload_n X 1 rfl dX9_readOperand_165 ?_
            refine V_iconst (v := (1 : Int32)) X (by decide) dX9_readOperand_166 ?_
            refine V_put (C := RX9) (T := TX9) (N := 5) (ci := 8) (v := .int (1 : Int32)) (ty := tyX9 4) (ws' := [(lw, .inr (4, [.ref ws_, .ref ww, .ref wt, .ref wn, .ref wg, .ref wi, .int lz])), (ws_, .inl (Y 0, 128, .inl fs)), (ww, .inl (Y 0, 128, .inl fw)), (tp, .inr (8, [.ref tb, .int tl, .ref lw, .int pl, .int (1 : Int32)])), (tb, .inl (Y 0, 120, .inl fb))]) X in_X9_readOperand_X9 3 rfl rfl 4 (by decide) (List.mem_of_getElem? (i := 3) rfl) rfl tyX9 tyX9_ok nmX9 rfl (tyX9_ok 4 (by decide)) rfl rfl (Nat.le_of_ble_eq_true rfl) rfl dX9_readOperand_167 ?_
            refine V_ws (ws' := [(tp, .inr (8, [.ref tb, .int tl, .ref lw, .int pl, .int (1 : Int32)])), (tb, .inl (Y 0, 120, .inl fb)), (lw, .inr (4, [.ref ws_, .ref ww, .ref wt, .ref wn, .ref wg, .ref wi, .int lz])), (ws_, .inl (Y 0, 128, .inl fs)), (ww, .inl (Y 0, 128, .inl fw))]) [3, 4, 0, 1, 2] rfl rfl rfl ?_
            exact V_vret X hr dX9_readOperand_170 (Or.inr (⟨pos, t0, pl, (1 : Int32), lz, fs, fw, rfl, rfl, (by omega), (pOp_x hng hnn (Or.inl rfl)), (by omega), (Or.inl (by decide)), hLC⟩))
    · have hnm : 0 ≤ nmC (c pos) := by rw [← nmC_PK hpe]; omega
      have hnb := nmC_big hnm
      have hqlt := CHR_lt hCH (show c pos ≠ -1 by omega)
      refine V_aload_n X 1 rfl dX9_readOperand_31 ?_
      refine V_dup X rfl dX9_readOperand_32 ?_
      refine V_get (C := RX9) (T := TX9) (N := 5) (ci := 8) (v := .int pl) X in_X9_readOperand_X9 3 rfl rfl 3 (by decide) (List.mem_of_getElem? (i := 1) rfl) rfl rfl dX9_readOperand_33 ?_
      refine V_iconst (v := (1 : Int32)) X (by decide) dX9_readOperand_36 ?_
      refine V_iaddZ X tpl (show (1 : Int32).toInt = 1 from by decide) (by omega) (by omega) dX9_readOperand_37 (fun x_7 ex_7 tx_7 => ?_)
      have tx_7 : x_7.toInt = (((pos + 1) : Nat) : Int) := by omega
      refine V_put (C := RX9) (T := TX9) (N := 5) (ci := 8) (v := .int x_7) (ty := tyX9 3) (ws' := [(lw, .inr (4, [.ref ws_, .ref ww, .ref wt, .ref wn, .ref wg, .ref wi, .int lz])), (ws_, .inl (Y 0, 128, .inl fs)), (ww, .inl (Y 0, 128, .inl fw)), (tp, .inr (8, [.ref tb, .int tl, .ref lw, .int x_7, .int fa])), (tb, .inl (Y 0, 120, .inl fb))]) X in_X9_readOperand_X9 3 rfl rfl 3 (by decide) (List.mem_of_getElem? (i := 1) rfl) rfl tyX9 tyX9_ok nmX9 rfl (tyX9_ok 3 (by decide)) rfl rfl (Nat.le_of_ble_eq_true rfl) rfl dX9_readOperand_38 ?_
      refine V_aload_n X 1 rfl dX9_readOperand_41 ?_
      refine V_get (C := RX9) (T := TX9) (N := 5) (ci := 8) (v := .ref lw) X in_X9_readOperand_X9 3 rfl rfl 2 (by decide) (List.mem_of_getElem? (i := 2) rfl) rfl rfl dX9_readOperand_42 ?_
      refine V_bipush (v := (97 : Int32)) X (by decide) dX9_readOperand_45 ?_
      refine V_iload_n X 0 rfl dX9_readOperand_47 ?_
      refine V_callS (wr := [(lw, .inr (4, [.ref ws_, .ref ww, .ref wt, .ref wn, .ref wg, .ref wi, .int lz])), (ws_, .inl (Y 0, 128, .inl fs)), (ww, .inl (Y 0, 128, .inl fw)), (tp, .inr (8, [.ref tb, .int tl, .ref lw, .int x_7, .int fa])), (tb, .inl (Y 0, 120, .inl fb))]) (st := [.int (97 : Int32), .ref lw]) X (c_X9_nameOf l D Y r_2) 1 gX9_readOperand_X9_nameOf rfl (by decide +kernel) ⟨rfl, rfl⟩ ⟨(by simp only [headSpec]; omega), (by simp only [headSpec]; omega)⟩ [] [0, 1, 2, 3, 4] rfl rfl rfl rfl (by decide) rfl rfl (Nat.le_of_ble_eq_true rfl) ⟨Nat.le_of_ble_eq_true rfl, Nat.le_of_ble_eq_true rfl⟩ dX9_readOperand_48 (fun v_48 w_48 h_48 => ?_)
      obtain ⟨r_9, rfl, rfl, htr_10⟩ := h_48
      refine V_to (pc' := 51) (ls' := [(2, .int r_2), (0, .ref tp), (1, .int op_)]) (st' := [.int r_9, .int (97 : Int32), .ref lw]) (ws' := [(lw, .inr (4, [.ref ws_, .ref ww, .ref wt, .ref wn, .ref wg, .ref wi, .int lz])), (ws_, .inl (Y 0, 128, .inl fs)), (ww, .inl (Y 0, 128, .inl fw)), (tp, .inr (8, [.ref tb, .int tl, .ref lw, .int x_7, .int fa])), (tb, .inl (Y 0, 120, .inl fb))]) ?_ rfl rfl rfl rfl
      refine V_callV (C := RX5) (wr := [(tp, .inr (8, [.ref tb, .int tl, .ref lw, .int x_7, .int fa])), (tb, .inl (Y 0, 120, .inl fb))]) (st := []) X (c_X5_addT l D Y lw ws_ ww wt wn wg wi lz fs fw t0 (97 : Int32) r_9 hLC) 2 gX9_readOperand_X5_add rfl (by decide +kernel) ⟨rfl, rfl⟩ ⟨(by simp only [headSpec]; omega), (by simp only [headSpec]; omega)⟩ [0, 1, 2] [3, 4] rfl rfl rfl rfl (by decide) (ci := 4) rfl rfl 0 rfl rfl rfl (Nat.le_of_ble_eq_true rfl) ⟨Nat.le_of_ble_eq_true rfl, Nat.le_of_ble_eq_true rfl⟩ dX9_readOperand_51 (fun v_51 w_51 h_51 => ?_)
      obtain ⟨lz2_12, fs2_13, fw2_14, t_a, rfl, rfl, hLa, hta⟩ := h_51
      refine V_to (pc' := 54) (ls' := [(2, .int r_2), (0, .ref tp), (1, .int op_)]) (st' := []) (ws' := [(tp, .inr (8, [.ref tb, .int tl, .ref lw, .int x_7, .int fa])), (tb, .inl (Y 0, 120, .inl fb)), (lw, .inr (4, [.ref ws_, .ref ww, .ref wt, .ref wn, .ref wg, .ref wi, .int lz2_12])), (ws_, .inl (Y 0, 128, .inl fs2_13)), (ww, .inl (Y 0, 128, .inl fw2_14))]) ?_ rfl rfl rfl rfl
      have hc_97 : (97 : Int32).toInt = 97 := by decide
      have hta9 : t_a = t0 ++ [(97, nmC (c pos))] := by have h9 := hta (by omega); rw [show (97 : Int32).toInt = 97 from by decide, htr_10, nmC_PK hpe] at h9; exact h9
      refine V_goto X 170 (by decide) dX9_readOperand_54 ?_
      exact V_vret X hr dX9_readOperand_170 (Or.inl ⟨(pos + 1), [(97, nmC (c pos))], x_7, lz2_12, fs2_13, fw2_14, rfl, rfl, (by omega), (pOp_n hng hnm), ⟨Nat.le_refl _, by omega⟩, (hta9 ▸ hLa)⟩)
  · refine V_iload_n X 0 rfl dX9_readOperand_11 ?_
    refine V_bipush (v := (57 : Int32)) X (by decide) dX9_readOperand_12 ?_
    refine V_icmp_gt X rfl (show (57 : Int32).toInt = 57 from by decide) 24 dX9_readOperand_14 (by decide) (fun c_14 => ?_) (fun c_14 => ?_)
    · have hng : ¬ (48 ≤ c pos ∧ c pos ≤ 57) := by unfold PK at hpe; omega
      refine V_iload_n X 0 rfl dX9_readOperand_24 ?_
      refine V_callS (wr := [(lw, .inr (4, [.ref ws_, .ref ww, .ref wt, .ref wn, .ref wg, .ref wi, .int lz])), (ws_, .inl (Y 0, 128, .inl fs)), (ww, .inl (Y 0, 128, .inl fw)), (tp, .inr (8, [.ref tb, .int tl, .ref lw, .int pl, .int fa])), (tb, .inl (Y 0, 120, .inl fb))]) (st := []) X (c_X9_nameOf l D Y r_2) 1 gX9_readOperand_X9_nameOf rfl (by decide +kernel) ⟨rfl, rfl⟩ ⟨(by simp only [headSpec]; omega), (by simp only [headSpec]; omega)⟩ [] [0, 1, 2, 3, 4] rfl rfl rfl rfl (by decide) rfl rfl (Nat.le_of_ble_eq_true rfl) ⟨Nat.le_of_ble_eq_true rfl, Nat.le_of_ble_eq_true rfl⟩ dX9_readOperand_25 (fun v_25 w_25 h_25 => ?_)
      obtain ⟨r_19, rfl, rfl, htr_20⟩ := h_25
      refine V_to (pc' := 28) (ls' := [(2, .int r_2), (0, .ref tp), (1, .int op_)]) (st' := [.int r_19]) (ws' := [(lw, .inr (4, [.ref ws_, .ref ww, .ref wt, .ref wn, .ref wg, .ref wi, .int lz])), (ws_, .inl (Y 0, 128, .inl fs)), (ww, .inl (Y 0, 128, .inl fw)), (tp, .inr (8, [.ref tb, .int tl, .ref lw, .int pl, .int fa])), (tb, .inl (Y 0, 120, .inl fb))]) ?_ rfl rfl rfl rfl
      refine V_if_lt X htr_20 57 dX9_readOperand_28 (by decide) (fun c_28 => ?_) (fun c_28 => ?_)
      · have hnn : nmC (c pos) < 0 := by rw [← nmC_PK hpe]; omega
        refine V_iload_n X 0 rfl dX9_readOperand_57 ?_
        refine V_bipush (v := (40 : Int32)) X (by decide) dX9_readOperand_58 ?_
        refine V_icmp_eq X rfl (show (40 : Int32).toInt = 40 from by decide) 75 dX9_readOperand_60 (by decide) (fun c_60 => ?_) (fun c_60 => ?_)
        · refine V_iload_n X 2 rfl dX9_readOperand_75 ?_
          refine V_bipush (v := (6 : Int32)) X (by decide) dX9_readOperand_76 ?_
          refine V_icmp_ge X top_ (show (6 : Int32).toInt = 6 from by decide) 165 dX9_readOperand_78 (by decide) (fun c_78 => ?_) (fun c_78 => False.elim (by omega))
          refine V_aload_n X 1 rfl dX9_readOperand_165 ?_
          refine V_iconst (v := (1 : Int32)) X (by decide) dX9_readOperand_166 ?_
          refine V_put (C := RX9) (T := TX9) (N := 5) (ci := 8) (v := .int (1 : Int32)) (ty := tyX9 4) (ws' := [(lw, .inr (4, [.ref ws_, .ref ww, .ref wt, .ref wn, .ref wg, .ref wi, .int lz])), (ws_, .inl (Y 0, 128, .inl fs)), (ww, .inl (Y 0, 128, .inl fw)), (tp, .inr (8, [.ref tb, .int tl, .ref lw, .int pl, .int (1 : Int32)])), (tb, .inl (Y 0, 120, .inl fb))]) X in_X9_readOperand_X9 3 rfl rfl 4 (by decide) (List.mem_of_getElem? (i := 3) rfl) rfl tyX9 tyX9_ok nmX9 rfl (tyX9_ok 4 (by decide)) rfl rfl (Nat.le_of_ble_eq_true rfl) rfl dX9_readOperand_167 ?_
          refine V_ws (ws' := [(tp, .inr (8, [.ref tb, .int tl, .ref lw, .int pl, .int (1 : Int32)])), (tb, .inl (Y 0, 120, .inl fb)), (lw, .inr (4, [.ref ws_, .ref ww, .ref wt, .ref wn, .ref wg, .ref wi, .int lz])), (ws_, .inl (Y 0, 128, .inl fs)), (ww, .inl (Y 0, 128, .inl fw))]) [3, 4, 0, 1, 2] rfl rfl rfl ?_
          exact V_vret X hr dX9_readOperand_170 (Or.inr (⟨pos, t0, pl, (1 : Int32), lz, fs, fw, rfl, rfl, (by omega), (pOp_x hng hnn (Or.inl rfl)), (by omega), (Or.inl (by decide)), hLC⟩))
        · refine V_iload_n X 0 rfl dX9_readOperand_63 ?_
          refine V_bipush (v := (33 : Int32)) X (by decide) dX9_readOperand_64 ?_
          refine V_icmp_eq X rfl (show (33 : Int32).toInt = 33 from by decide) 75 dX9_readOperand_66 (by decide) (fun c_66 => ?_) (fun c_66 => ?_)
          · refine V_iload_n X 2 rfl dX9_readOperand_75 ?_
            refine V_bipush (v := (6 : Int32)) X (by decide) dX9_readOperand_76 ?_
            refine V_icmp_ge X top_ (show (6 : Int32).toInt = 6 from by decide) 165 dX9_readOperand_78 (by decide) (fun c_78 => ?_) (fun c_78 => False.elim (by omega))
            refine V_aload_n X 1 rfl dX9_readOperand_165 ?_
            refine V_iconst (v := (1 : Int32)) X (by decide) dX9_readOperand_166 ?_
            refine V_put (C := RX9) (T := TX9) (N := 5) (ci := 8) (v := .int (1 : Int32)) (ty := tyX9 4) (ws' := [(lw, .inr (4, [.ref ws_, .ref ww, .ref wt, .ref wn, .ref wg, .ref wi, .int lz])), (ws_, .inl (Y 0, 128, .inl fs)), (ww, .inl (Y 0, 128, .inl fw)), (tp, .inr (8, [.ref tb, .int tl, .ref lw, .int pl, .int (1 : Int32)])), (tb, .inl (Y 0, 120, .inl fb))]) X in_X9_readOperand_X9 3 rfl rfl 4 (by decide) (List.mem_of_getElem? (i := 3) rfl) rfl tyX9 tyX9_ok nmX9 rfl (tyX9_ok 4 (by decide)) rfl rfl (Nat.le_of_ble_eq_true rfl) rfl dX9_readOperand_167 ?_
            refine V_ws (ws' := [(tp, .inr (8, [.ref tb, .int tl, .ref lw, .int pl, .int (1 : Int32)])), (tb, .inl (Y 0, 120, .inl fb)), (lw, .inr (4, [.ref ws_, .ref ww, .ref wt, .ref wn, .ref wg, .ref wi, .int lz])), (ws_, .inl (Y 0, 128, .inl fs)), (ww, .inl (Y 0, 128, .inl fw))]) [3, 4, 0, 1, 2] rfl rfl rfl ?_
            exact V_vret X hr dX9_readOperand_170 (Or.inr (⟨pos, t0, pl, (1 : Int32), lz, fs, fw, rfl, rfl, (by omega), (pOp_x hng hnn (Or.inl rfl)), (by omega), (Or.inl (by decide)), hLC⟩))
          · refine V_iload_n X 0 rfl dX9_readOperand_69 ?_
            refine V_bipush (v := (45 : Int32)) X (by decide) dX9_readOperand_70 ?_
            refine V_icmp_ne X rfl (show (45 : Int32).toInt = 45 from by decide) 165 dX9_readOperand_72 (by decide) (fun c_72 => ?_) (fun c_72 => ?_)
            · refine V_aload_n X 1 rfl dX9_readOperand_165 ?_
              refine V_iconst (v := (1 : Int32)) X (by decide) dX9_readOperand_166 ?_
              refine V_put (C := RX9) (T := TX9) (N := 5) (ci := 8) (v := .int (1 : Int32)) (ty := tyX9 4) (ws' := [(lw, .inr (4, [.ref ws_, .ref ww, .ref wt, .ref wn, .ref wg, .ref wi, .int lz])), (ws_, .inl (Y 0, 128, .inl fs)), (ww, .inl (Y 0, 128, .inl fw)), (tp, .inr (8, [.ref tb, .int tl, .ref lw, .int pl, .int (1 : Int32)])), (tb, .inl (Y 0, 120, .inl fb))]) X in_X9_readOperand_X9 3 rfl rfl 4 (by decide) (List.mem_of_getElem? (i := 3) rfl) rfl tyX9 tyX9_ok nmX9 rfl (tyX9_ok 4 (by decide)) rfl rfl (Nat.le_of_ble_eq_true rfl) rfl dX9_readOperand_167 ?_
              refine V_ws (ws' := [(tp, .inr (8, [.ref tb, .int tl, .ref lw, .int pl, .int (1 : Int32)])), (tb, .inl (Y 0, 120, .inl fb)), (lw, .inr (4, [.ref ws_, .ref ww, .ref wt, .ref wn, .ref wg, .ref wi, .int lz])), (ws_, .inl (Y 0, 128, .inl fs)), (ww, .inl (Y 0, 128, .inl fw))]) [3, 4, 0, 1, 2] rfl rfl rfl ?_
              exact V_vret X hr dX9_readOperand_170 (Or.inr (⟨pos, t0, pl, (1 : Int32), lz, fs, fw, rfl, rfl, (by omega), (pOp_x hng hnn (Or.inr (by unfold PK at hpe; omega))), (by omega), (Or.inl (by decide)), hLC⟩))
            · refine V_iload_n X 2 rfl dX9_readOperand_75 ?_
              refine V_bipush (v := (6 : Int32)) X (by decide) dX9_readOperand_76 ?_
              refine V_icmp_ge X top_ (show (6 : Int32).toInt = 6 from by decide) 165 dX9_readOperand_78 (by decide) (fun c_78 => ?_) (fun c_78 => False.elim (by omega))
              refine V_aload_n X 1 rfl dX9_readOperand_165 ?_
              refine V_iconst (v := (1 : Int32)) X (by decide) dX9_readOperand_166 ?_
              refine V_put (C := RX9) (T := TX9) (N := 5) (ci := 8) (v := .int (1 : Int32)) (ty := tyX9 4) (ws' := [(lw, .inr (4, [.ref ws_, .ref ww, .ref wt, .ref wn, .ref wg, .ref wi, .int lz])), (ws_, .inl (Y 0, 128, .inl fs)), (ww, .inl (Y 0, 128, .inl fw)), (tp, .inr (8, [.ref tb, .int tl, .ref lw, .int pl, .int (1 : Int32)])), (tb, .inl (Y 0, 120, .inl fb))]) X in_X9_readOperand_X9 3 rfl rfl 4 (by decide) (List.mem_of_getElem? (i := 3) rfl) rfl tyX9 tyX9_ok nmX9 rfl (tyX9_ok 4 (by decide)) rfl rfl (Nat.le_of_ble_eq_true rfl) rfl dX9_readOperand_167 ?_
              refine V_ws (ws' := [(tp, .inr (8, [.ref tb, .int tl, .ref lw, .int pl, .int (1 : Int32)])), (tb, .inl (Y 0, 120, .inl fb)), (lw, .inr (4, [.ref ws_, .ref ww, .ref wt, .ref wn, .ref wg, .ref wi, .int lz])), (ws_, .inl (Y 0, 128, .inl fs)), (ww, .inl (Y 0, 128, .inl fw))]) [3, 4, 0, 1, 2] rfl rfl rfl ?_
              exact V_vret X hr dX9_readOperand_170 (Or.inr (⟨pos, t0, pl, (1 : Int32), lz, fs, fw, rfl, rfl, (by omega), (pOp_x hng hnn (Or.inl rfl)), (by omega), (Or.inl (by decide)), hLC⟩))
      · have hnm : 0 ≤ nmC (c pos) := by rw [← nmC_PK hpe]; omega
        have hnb := nmC_big hnm
        have hqlt := CHR_lt hCH (show c pos ≠ -1 by omega)
        refine V_aload_n X 1 rfl dX9_readOperand_31 ?_
        refine V_dup X rfl dX9_readOperand_32 ?_
        refine V_get (C := RX9) (T := TX9) (N := 5) (ci := 8) (v := .int pl) X in_X9_readOperand_X9 3 rfl rfl 3 (by decide) (List.mem_of_getElem? (i := 1) rfl) rfl rfl dX9_readOperand_33 ?_
        refine V_iconst (v := (1 : Int32)) X (by decide) dX9_readOperand_36 ?_
        refine V_iaddZ X tpl (show (1 : Int32).toInt = 1 from by decide) (by omega) (by omega) dX9_readOperand_37 (fun x_21 ex_21 tx_21 => ?_)
        have tx_21 : x_21.toInt = (((pos + 1) : Nat) : Int) := by omega
        refine V_put (C := RX9) (T := TX9) (N := 5) (ci := 8) (v := .int x_21) (ty := tyX9 3) (ws' := [(lw, .inr (4, [.ref ws_, .ref ww, .ref wt, .ref wn, .ref wg, .ref wi, .int lz])), (ws_, .inl (Y 0, 128, .inl fs)), (ww, .inl (Y 0, 128, .inl fw)), (tp, .inr (8, [.ref tb, .int tl, .ref lw, .int x_21, .int fa])), (tb, .inl (Y 0, 120, .inl fb))]) X in_X9_readOperand_X9 3 rfl rfl 3 (by decide) (List.mem_of_getElem? (i := 1) rfl) rfl tyX9 tyX9_ok nmX9 rfl (tyX9_ok 3 (by decide)) rfl rfl (Nat.le_of_ble_eq_true rfl) rfl dX9_readOperand_38 ?_
        refine V_aload_n X 1 rfl dX9_readOperand_41 ?_
        refine V_get (C := RX9) (T := TX9) (N := 5) (ci := 8) (v := .ref lw) X in_X9_readOperand_X9 3 rfl rfl 2 (by decide) (List.mem_of_getElem? (i := 2) rfl) rfl rfl dX9_readOperand_42 ?_
        refine V_bipush (v := (97 : Int32)) X (by decide) dX9_readOperand_45 ?_
        refine V_iload_n X 0 rfl dX9_readOperand_47 ?_
        refine V_callS (wr := [(lw, .inr (4, [.ref ws_, .ref ww, .ref wt, .ref wn, .ref wg, .ref wi, .int lz])), (ws_, .inl (Y 0, 128, .inl fs)), (ww, .inl (Y 0, 128, .inl fw)), (tp, .inr (8, [.ref tb, .int tl, .ref lw, .int x_21, .int fa])), (tb, .inl (Y 0, 120, .inl fb))]) (st := [.int (97 : Int32), .ref lw]) X (c_X9_nameOf l D Y r_2) 1 gX9_readOperand_X9_nameOf rfl (by decide +kernel) ⟨rfl, rfl⟩ ⟨(by simp only [headSpec]; omega), (by simp only [headSpec]; omega)⟩ [] [0, 1, 2, 3, 4] rfl rfl rfl rfl (by decide) rfl rfl (Nat.le_of_ble_eq_true rfl) ⟨Nat.le_of_ble_eq_true rfl, Nat.le_of_ble_eq_true rfl⟩ dX9_readOperand_48 (fun v_48 w_48 h_48 => ?_)
        obtain ⟨r_23, rfl, rfl, htr_24⟩ := h_48
        refine V_to (pc' := 51) (ls' := [(2, .int r_2), (0, .ref tp), (1, .int op_)]) (st' := [.int r_23, .int (97 : Int32), .ref lw]) (ws' := [(lw, .inr (4, [.ref ws_, .ref ww, .ref wt, .ref wn, .ref wg, .ref wi, .int lz])), (ws_, .inl (Y 0, 128, .inl fs)), (ww, .inl (Y 0, 128, .inl fw)), (tp, .inr (8, [.ref tb, .int tl, .ref lw, .int x_21, .int fa])), (tb, .inl (Y 0, 120, .inl fb))]) ?_ rfl rfl rfl rfl
        refine V_callV (C := RX5) (wr := [(tp, .inr (8, [.ref tb, .int tl, .ref lw, .int x_21, .int fa])), (tb, .inl (Y 0, 120, .inl fb))]) (st := []) X (c_X5_addT l D Y lw ws_ ww wt wn wg wi lz fs fw t0 (97 : Int32) r_23 hLC) 2 gX9_readOperand_X5_add rfl (by decide +kernel) ⟨rfl, rfl⟩ ⟨(by simp only [headSpec]; omega), (by simp only [headSpec]; omega)⟩ [0, 1, 2] [3, 4] rfl rfl rfl rfl (by decide) (ci := 4) rfl rfl 0 rfl rfl rfl (Nat.le_of_ble_eq_true rfl) ⟨Nat.le_of_ble_eq_true rfl, Nat.le_of_ble_eq_true rfl⟩ dX9_readOperand_51 (fun v_51 w_51 h_51 => ?_)
        obtain ⟨lz2_26, fs2_27, fw2_28, t_a, rfl, rfl, hLa, hta⟩ := h_51
        refine V_to (pc' := 54) (ls' := [(2, .int r_2), (0, .ref tp), (1, .int op_)]) (st' := []) (ws' := [(tp, .inr (8, [.ref tb, .int tl, .ref lw, .int x_21, .int fa])), (tb, .inl (Y 0, 120, .inl fb)), (lw, .inr (4, [.ref ws_, .ref ww, .ref wt, .ref wn, .ref wg, .ref wi, .int lz2_26])), (ws_, .inl (Y 0, 128, .inl fs2_27)), (ww, .inl (Y 0, 128, .inl fw2_28))]) ?_ rfl rfl rfl rfl
        have hc_97 : (97 : Int32).toInt = 97 := by decide
        have hta9 : t_a = t0 ++ [(97, nmC (c pos))] := by have h9 := hta (by omega); rw [show (97 : Int32).toInt = 97 from by decide, htr_24, nmC_PK hpe] at h9; exact h9
        refine V_goto X 170 (by decide) dX9_readOperand_54 ?_
        exact V_vret X hr dX9_readOperand_170 (Or.inl ⟨(pos + 1), [(97, nmC (c pos))], x_21, lz2_26, fs2_27, fw2_28, rfl, rfl, (by omega), (pOp_n hng hnm), ⟨Nat.le_refl _, by omega⟩, (hta9 ▸ hLa)⟩)
    · have hdg : 48 ≤ c pos ∧ c pos ≤ 57 := by unfold PK at hpe; omega
      refine V_aload_n X 1 rfl dX9_readOperand_17 ?_
      refine V_callV (C := RX9) (wr := []) (st := []) X (c_X9_readNumber l D Y tp tb lw tl pl fa pos L c ws_ ww wt wn wg wi lz fs fw t0 fb ttl hL tpl hpL hCH hLC hfa htp hdg) 0 gX9_readOperand_X9_readNumber rfl (by decide +kernel) ⟨rfl, rfl⟩ ⟨(by simp only [headSpec]; omega), (by simp only [headSpec]; omega)⟩ [3, 4, 0, 1, 2] [] rfl rfl rfl rfl (by decide) (ci := 8) rfl rfl 0 rfl rfl rfl (Nat.le_of_ble_eq_true rfl) ⟨Nat.le_of_ble_eq_true rfl, Nat.le_of_ble_eq_true rfl⟩ dX9_readOperand_18 (fun v_18 w_18 h_18 => ?_)
      obtain ⟨q_n, pl2_34, lz2_35, fs2_36, fw2_37, rfl, rfl, tpln, hqn, hqbn, hLn⟩ := h_18
      refine V_to (pc' := 21) (ls' := [(2, .int r_2), (0, .ref tp), (1, .int op_)]) (st' := []) (ws' := [(tp, .inr (8, [.ref tb, .int tl, .ref lw, .int pl2_34, .int fa])), (tb, .inl (Y 0, 120, .inl fb)), (lw, .inr (4, [.ref ws_, .ref ww, .ref wt, .ref wn, .ref wg, .ref wi, .int lz2_35])), (ws_, .inl (Y 0, 128, .inl fs2_36)), (ww, .inl (Y 0, 128, .inl fw2_37))]) ?_ rfl rfl rfl rfl
      by_cases h5 : 48 ≤ c q_n ∧ c q_n ≤ 57
      · refine V_goto X 170 (by decide) dX9_readOperand_21 ?_
        exact V_vret X hr dX9_readOperand_170 (Or.inr (⟨q_n, (t0 ++ [(48, (pDg c 4 pos 0).2)]), pl2_34, fa, lz2_35, fs2_36, fw2_37, rfl, rfl, (by omega), ((pOp_d hdg).trans (pFig_y hqn h5)), (by omega), (Or.inr h5), hLn⟩))
      · refine V_goto X 170 (by decide) dX9_readOperand_21 ?_
        exact V_vret X hr dX9_readOperand_170 (Or.inl ⟨q_n, [(48, (pDg c 4 pos 0).2)], pl2_34, lz2_35, fs2_36, fw2_37, rfl, rfl, (by omega), ((pOp_d hdg).trans (pFig_n hqn h5)), hqbn, hLn⟩)

set_option maxHeartbeats 4000000 in
set_option maxRecDepth 100000 in
theorem c_X9_readOperand_s (l : Launch) (D : va_G) (Y : Nat → ClassId) (tp : Nat) (tb : Nat) (lw : Nat) (tl : Int32) (pl : Int32) (fa : Int32) (pos : Nat) (L : Nat) (c : Nat → Int) (ws_ : Nat) (ww : Nat) (wt : Nat) (wn : Nat) (wg : Nat) (wi : Nat) (lz : Int32) (fs : Nat → Int32) (fw : Nat → Int32) (t0 : List Tok) (fb : Nat → Int32) (k : Nat) (op_ : Int32) (opn : Nat) (ttl : tl.toInt = ((L : Nat) : Int)) (hL : L ≤ 120) (tpl : pl.toInt = ((pos : Nat) : Int)) (hpL : pos ≤ L) (hCH : CHR fb L c) (hLC : LC fs fw lz t0) (hfa : fa.toInt = 0) (htp : t0.length ≤ pos) (top_ : op_.toInt = ((opn : Nat) : Int)) (hok : opn + (k + 1) = 6) (ihO : ∀ (l : Launch) (D : va_G) (Y : Nat → ClassId) (tp : Nat) (tb : Nat) (lw : Nat) (tl : Int32) (pl : Int32) (fa : Int32) (pos : Nat) (L : Nat) (c : Nat → Int) (ws_ : Nat) (ww : Nat) (wt : Nat) (wn : Nat) (wg : Nat) (wi : Nat) (lz : Int32) (fs : Nat → Int32) (fw : Nat → Int32) (t0 : List Tok) (fb : Nat → Int32) (op_ : Int32) (opn : Nat) (ttl : tl.toInt = ((L : Nat) : Int)) (hL : L ≤ 120) (tpl : pl.toInt = ((pos : Nat) : Int)) (hpL : pos ≤ L) (hCH : CHR fb L c) (hLC : LC fs fw lz t0) (hfa : fa.toInt = 0) (htp : t0.length ≤ pos) (top_ : op_.toInt = ((opn : Nat) : Int)) (hok : opn + k = 6), Mg l yX9_readOperand wsX9_readOperand ({ frames := 7 * (k) + 8, cells := 0, slots := 0, locals := 250 * (k) + 400 }) D Y [(tp, .inr (8, [.ref tb, .int tl, .ref lw, .int pl, .int fa])), (tb, .inl (Y 0, 120, .inl fb)), (lw, .inr (4, [.ref ws_, .ref ww, .ref wt, .ref wn, .ref wg, .ref wi, .int lz])), (ws_, .inl (Y 0, 128, .inl fs)), (ww, .inl (Y 0, 128, .inl fw))] [.ref tp, .int op_] 0 0 (fun vv__ ww__ => (∃ (q : Nat), ∃ (ts : List Tok), ∃ (pl2 : Int32), ∃ (lz2 : Int32), ∃ (fs2 : Nat → Int32), ∃ (fw2 : Nat → Int32), vv__ = none ∧ ww__ = [(tp, .inr (8, [.ref tb, .int tl, .ref lw, .int pl2, .int fa])), (tb, .inl (Y 0, 120, .inl fb)), (lw, .inr (4, [.ref ws_, .ref ww, .ref wt, .ref wn, .ref wg, .ref wi, .int lz2])), (ws_, .inl (Y 0, 128, .inl fs2)), (ww, .inl (Y 0, 128, .inl fw2))] ∧ (pl2.toInt = ((q : Nat) : Int)) ∧ (pOp c k pos = (q, some ts)) ∧ (pos + ts.length ≤ q ∧ q ≤ L) ∧ (LC fs2 fw2 lz2 (t0 ++ ts))) ∨ (∃ (q : Nat), ∃ (t1 : List Tok), ∃ (pl2 : Int32), ∃ (fa2 : Int32), ∃ (lz2 : Int32), ∃ (fs2 : Nat → Int32), ∃ (fw2 : Nat → Int32), vv__ = none ∧ ww__ = [(tp, .inr (8, [.ref tb, .int tl, .ref lw, .int pl2, .int fa2])), (tb, .inl (Y 0, 120, .inl fb)), (lw, .inr (4, [.ref ws_, .ref ww, .ref wt, .ref wn, .ref wg, .ref wi, .int lz2])), (ws_, .inl (Y 0, 128, .inl fs2)), (ww, .inl (Y 0, 128, .inl fw2))] ∧ (pl2.toInt = ((q : Nat) : Int)) ∧ (pOp c k pos = (q, none)) ∧ (q ≤ L) ∧ (fa2.toInt ≠ 0 ∨ (48 ≤ c q ∧ c q ≤ 57)) ∧ (LC fs2 fw2 lz2 t1)))) (ihT : ∀ (l : Launch) (D : va_G) (Y : Nat → ClassId) (tp : Nat) (tb : Nat) (lw : Nat) (tl : Int32) (pl : Int32) (fa : Int32) (pos : Nat) (L : Nat) (c : Nat → Int) (ws_ : Nat) (ww : Nat) (wt : Nat) (wn : Nat) (wg : Nat) (wi : Nat) (lz : Int32) (fs : Nat → Int32) (fw : Nat → Int32) (t0 : List Tok) (fb : Nat → Int32) (lv_ : Int32) (lev : Nat) (op_ : Int32) (opn : Nat) (ttl : tl.toInt = ((L : Nat) : Int)) (hL : L ≤ 120) (tpl : pl.toInt = ((pos : Nat) : Int)) (hpL : pos ≤ L) (hCH : CHR fb L c) (hLC : LC fs fw lz t0) (hfa : fa.toInt = 0) (htp : t0.length ≤ pos) (top_ : op_.toInt = ((opn : Nat) : Int)) (hok : opn + k = 6) (tlv_ : lv_.toInt = ((lev : Nat) : Int)) (hlj : lev + 5 = 5), Mg l yX9_readTerms wsX9_readTerms ({ frames := 7 * (k) + 9 + (5), cells := 0, slots := 0, locals := 250 * (k) + 430 + 30 * (5) }) D Y [(tp, .inr (8, [.ref tb, .int tl, .ref lw, .int pl, .int fa])), (tb, .inl (Y 0, 120, .inl fb)), (lw, .inr (4, [.ref ws_, .ref ww, .ref wt, .ref wn, .ref wg, .ref wi, .int lz])), (ws_, .inl (Y 0, 128, .inl fs)), (ww, .inl (Y 0, 128, .inl fw))] [.ref tp, .int lv_, .int op_] 0 0 (fun vv__ ww__ => (∃ (q : Nat), ∃ (ts : List Tok), ∃ (pl2 : Int32), ∃ (lz2 : Int32), ∃ (fs2 : Nat → Int32), ∃ (fw2 : Nat → Int32), vv__ = none ∧ ww__ = [(tp, .inr (8, [.ref tb, .int tl, .ref lw, .int pl2, .int fa])), (tb, .inl (Y 0, 120, .inl fb)), (lw, .inr (4, [.ref ws_, .ref ww, .ref wt, .ref wn, .ref wg, .ref wi, .int lz2])), (ws_, .inl (Y 0, 128, .inl fs2)), (ww, .inl (Y 0, 128, .inl fw2))] ∧ (pl2.toInt = ((q : Nat) : Int)) ∧ (pTm c (pOp c k) 5 pos = (q, some ts)) ∧ (pos + ts.length ≤ q ∧ q ≤ L) ∧ (LC fs2 fw2 lz2 (t0 ++ ts))) ∨ (∃ (q : Nat), ∃ (t1 : List Tok), ∃ (pl2 : Int32), ∃ (fa2 : Int32), ∃ (lz2 : Int32), ∃ (fs2 : Nat → Int32), ∃ (fw2 : Nat → Int32), vv__ = none ∧ ww__ = [(tp, .inr (8, [.ref tb, .int tl, .ref lw, .int pl2, .int fa2])), (tb, .inl (Y 0, 120, .inl fb)), (lw, .inr (4, [.ref ws_, .ref ww, .ref wt, .ref wn, .ref wg, .ref wi, .int lz2])), (ws_, .inl (Y 0, 128, .inl fs2)), (ww, .inl (Y 0, 128, .inl fw2))] ∧ (pl2.toInt = ((q : Nat) : Int)) ∧ (pTm c (pOp c k) 5 pos = (q, none)) ∧ (q ≤ L) ∧ (fa2.toInt ≠ 0 ∨ (48 ≤ c q ∧ c q ≤ 57)) ∧ (LC fs2 fw2 lz2 t1)))) : Mg l yX9_readOperand wsX9_readOperand ({ frames := 7 * ((k + 1)) + 8, cells := 0, slots := 0, locals := 250 * ((k + 1)) + 400 }) D Y [(tp, .inr (8, [.ref tb, .int tl, .ref lw, .int pl, .int fa])), (tb, .inl (Y 0, 120, .inl fb)), (lw, .inr (4, [.ref ws_, .ref ww, .ref wt, .ref wn, .ref wg, .ref wi, .int lz])), (ws_, .inl (Y 0, 128, .inl fs)), (ww, .inl (Y 0, 128, .inl fw))] [.ref tp, .int op_] 0 0 (fun vv__ ww__ => (∃ (q : Nat), ∃ (ts : List Tok), ∃ (pl2 : Int32), ∃ (lz2 : Int32), ∃ (fs2 : Nat → Int32), ∃ (fw2 : Nat → Int32), vv__ = none ∧ ww__ = [(tp, .inr (8, [.ref tb, .int tl, .ref lw, .int pl2, .int fa])), (tb, .inl (Y 0, 120, .inl fb)), (lw, .inr (4, [.ref ws_, .ref ww, .ref wt, .ref wn, .ref wg, .ref wi, .int lz2])), (ws_, .inl (Y 0, 128, .inl fs2)), (ww, .inl (Y 0, 128, .inl fw2))] ∧ (pl2.toInt = ((q : Nat) : Int)) ∧ (pOp c (k + 1) pos = (q, some ts)) ∧ (pos + ts.length ≤ q ∧ q ≤ L) ∧ (LC fs2 fw2 lz2 (t0 ++ ts))) ∨ (∃ (q : Nat), ∃ (t1 : List Tok), ∃ (pl2 : Int32), ∃ (fa2 : Int32), ∃ (lz2 : Int32), ∃ (fs2 : Nat → Int32), ∃ (fw2 : Nat → Int32), vv__ = none ∧ ww__ = [(tp, .inr (8, [.ref tb, .int tl, .ref lw, .int pl2, .int fa2])), (tb, .inl (Y 0, 120, .inl fb)), (lw, .inr (4, [.ref ws_, .ref ww, .ref wt, .ref wn, .ref wg, .ref wi, .int lz2])), (ws_, .inl (Y 0, 128, .inl fs2)), (ww, .inl (Y 0, 128, .inl fw2))] ∧ (pl2.toInt = ((q : Nat) : Int)) ∧ (pOp c (k + 1) pos = (q, none)) ∧ (q ≤ L) ∧ (fa2.toInt ≠ 0 ∨ (48 ≤ c q ∧ c q ≤ 57)) ∧ (LC fs2 fw2 lz2 t1))) := by
  refine Mg_of (cc := cX9_readOperand) (maxL := 3) (ret := none) (ls0 := [(0, .ref tp), (1, .int op_)]) RX9 (by decide) rfl rfl rfl (Nat.le_of_ble_eq_true rfl) (fun p__ e__ s__ m__ b__ t__ c__ X hr hn => ?_)
  refine V_aload_n X 0 rfl dX9_readOperand_0 ?_
  refine V_callV (C := RX9) (wr := [(lw, .inr (4, [.ref ws_, .ref ww, .ref wt, .ref wn, .ref wg, .ref wi, .int lz])), (ws_, .inl (Y 0, 128, .inl fs)), (ww, .inl (Y 0, 128, .inl fw))]) (st := []) X (c_X9_peek l D Y tp tb lw tl pl fa pos L c fb ttl hL tpl hpL hCH) 0 gX9_readOperand_X9_peek rfl (by decide +kernel) ⟨rfl, rfl⟩ ⟨(by simp only [headSpec]; omega), (by simp only [headSpec]; omega)⟩ [0, 1] [2, 3, 4] rfl rfl rfl rfl (by decide) (ci := 8) rfl rfl 0 rfl rfl rfl (Nat.le_of_ble_eq_true rfl) ⟨Nat.le_of_ble_eq_true rfl, Nat.le_of_ble_eq_true rfl⟩ dX9_readOperand_1 (fun v_1 w_1 h_1 => ?_)
  obtain ⟨r_2, rfl, rfl, hhpk_3⟩ := h_1
  refine V_to (pc' := 4) (ls' := [(0, .ref tp), (1, .int op_)]) (st' := [.int r_2]) (ws' := [(lw, .inr (4, [.ref ws_, .ref ww, .ref wt, .ref wn, .ref wg, .ref wi, .int lz])), (ws_, .inl (Y 0, 128, .inl fs)), (ww, .inl (Y 0, 128, .inl fw)), (tp, .inr (8, [.ref tb, .int tl, .ref lw, .int pl, .int fa])), (tb, .inl (Y 0, 120, .inl fb))]) ?_ rfl rfl rfl rfl
  have hpe := PK_0 hhpk_3 hfa
  refine V_istore_n (ls' := [(2, .int r_2), (0, .ref tp), (1, .int op_)]) X (by decide) rfl dX9_readOperand_4 ?_
  refine V_iload_n X 0 rfl dX9_readOperand_5 ?_
  refine V_bipush (v := (48 : Int32)) X (by decide) dX9_readOperand_6 ?_
  refine V_icmp_lt X rfl (show (48 : Int32).toInt = 48 from by decide) 24 dX9_readOperand_8 (by decide) (fun c_8 => ?_) (fun c_8 => ?_)
  · have hng : ¬ (48 ≤ c pos ∧ c pos ≤ 57) := by unfold PK at hpe; omega
    refine V_iload_n X 0 rfl dX9_readOperand_24 ?_
    refine V_callS (wr := [(lw, .inr (4, [.ref ws_, .ref ww, .ref wt, .ref wn, .ref wg, .ref wi, .int lz])), (ws_, .inl (Y 0, 128, .inl fs)), (ww, .inl (Y 0, 128, .inl fw)), (tp, .inr (8, [.ref tb, .int tl, .ref lw, .int pl, .int fa])), (tb, .inl (Y 0, 120, .inl fb))]) (st := []) X (c_X9_nameOf l D Y r_2) 1 gX9_readOperand_X9_nameOf rfl (by decide +kernel) ⟨rfl, rfl⟩ ⟨(by simp only [headSpec]; omega), (by simp only [headSpec]; omega)⟩ [] [0, 1, 2, 3, 4] rfl rfl rfl rfl (by decide) rfl rfl (Nat.le_of_ble_eq_true rfl) ⟨Nat.le_of_ble_eq_true rfl, Nat.le_of_ble_eq_true rfl⟩ dX9_readOperand_25 (fun v_25 w_25 h_25 => ?_)
    obtain ⟨r_5, rfl, rfl, htr_6⟩ := h_25
    refine V_to (pc' := 28) (ls' := [(2, .int r_2), (0, .ref tp), (1, .int op_)]) (st' := [.int r_5]) (ws' := [(lw, .inr (4, [.ref ws_, .ref ww, .ref wt, .ref wn, .ref wg, .ref wi, .int lz])), (ws_, .inl (Y 0, 128, .inl fs)), (ww, .inl (Y 0, 128, .inl fw)), (tp, .inr (8, [.ref tb, .int tl, .ref lw, .int pl, .int fa])), (tb, .inl (Y 0, 120, .inl fb))]) ?_ rfl rfl rfl rfl
    refine V_if_lt X htr_6 57 dX9_readOperand_28 (by decide) (fun c_28 => ?_) (fun c_28 => ?_)
    · have hnn : nmC (c pos) < 0 := by rw [← nmC_PK hpe]; omega
      refine V_iload_n X 0 rfl dX9_readOperand_57 ?_
      refine V_bipush (v := (40 : Int32)) X (by decide) dX9_readOperand_58 ?_
      refine V_icmp_eq X rfl (show (40 : Int32).toInt = 40 from by decide) 75 dX9_readOperand_60 (by decide) (fun c_60 => ?_) (fun c_60 => ?_)
      · refine V_iload_n X 2 rfl dX9_readOperand_75 ?_
        refine V_bipush (v := (6 : Int32)) X (by decide) dX9_readOperand_76 ?_
        refine V_icmp_ge X top_ (show (6 : Int32).toInt = 6 from by decide) 165 dX9_readOperand_78 (by decide) (fun c_78 => False.elim (by omega)) (fun c_78 => ?_)
        have hcr : c pos = r_2.toInt := by unfold PK at hpe; omega
        have hqlt := CHR_lt hCH (show c pos ≠ -1 by omega)
        refine V_aload_n X 1 rfl dX9_readOperand_81 ?_
        refine V_dup X rfl dX9_readOperand_82 ?_
        refine V_get (C := RX9) (T := TX9) (N := 5) (ci := 8) (v := .int pl) X in_X9_readOperand_X9 3 rfl rfl 3 (by decide) (List.mem_of_getElem? (i := 1) rfl) rfl rfl dX9_readOperand_83 ?_
        refine V_iconst (v := (1 : Int32)) X (by decide) dX9_readOperand_86 ?_
        refine V_iaddZ X tpl (show (1 : Int32).toInt = 1 from by decide) (by omega) (by omega) dX9_readOperand_87 (fun x_7 ex_7 tx_7 => ?_)
        have tx_7 : x_7.toInt = (((pos + 1) : Nat) : Int) := by omega
        refine V_put (C := RX9) (T := TX9) (N := 5) (ci := 8) (v := .int x_7) (ty := tyX9 3) (ws' := [(lw, .inr (4, [.ref ws_, .ref ww, .ref wt, .ref wn, .ref wg, .ref wi, .int lz])), (ws_, .inl (Y 0, 128, .inl fs)), (ww, .inl (Y 0, 128, .inl fw)), (tp, .inr (8, [.ref tb, .int tl, .ref lw, .int x_7, .int fa])), (tb, .inl (Y 0, 120, .inl fb))]) X in_X9_readOperand_X9 3 rfl rfl 3 (by decide) (List.mem_of_getElem? (i := 1) rfl) rfl tyX9 tyX9_ok nmX9 rfl (tyX9_ok 3 (by decide)) rfl rfl (Nat.le_of_ble_eq_true rfl) rfl dX9_readOperand_88 ?_
        refine V_iload_n X 0 rfl dX9_readOperand_91 ?_
        refine V_bipush (v := (40 : Int32)) X (by decide) dX9_readOperand_92 ?_
        refine V_icmp_ne X rfl (show (40 : Int32).toInt = 40 from by decide) 135 dX9_readOperand_94 (by decide) (fun c_94 => False.elim (by omega)) (fun c_94 => ?_)
        refine V_aload_n X 1 rfl dX9_readOperand_97 ?_
        refine V_iconst (v := (0 : Int32)) X (by decide) dX9_readOperand_98 ?_
        refine V_iload_n X 2 rfl dX9_readOperand_99 ?_
        refine V_iconst (v := (1 : Int32)) X (by decide) dX9_readOperand_100 ?_
        refine V_iaddZ X top_ (show (1 : Int32).toInt = 1 from by decide) (by omega) (by omega) dX9_readOperand_101 (fun x_8 ex_8 tx_8 => ?_)
        have tx_8 : x_8.toInt = (((opn + 1) : Nat) : Int) := by omega
        refine V_callV (C := RX9) (wr := []) (st := []) X (ihT l D Y tp tb lw tl x_7 fa (pos + 1) L c ws_ ww wt wn wg wi lz fs fw t0 fb (0 : Int32) 0 x_8 (opn + 1) ttl hL tx_7 (by omega) hCH hLC hfa (by omega) tx_8 (by omega) (by decide) (by decide)) 2 gX9_readOperand_X9_readTerms rfl (by decide +kernel) ⟨rfl, rfl⟩ ⟨(by simp only [headSpec]; omega), (by simp only [headSpec]; omega)⟩ [3, 4, 0, 1, 2] [] rfl rfl rfl rfl (by decide) (ci := 8) rfl rfl 0 rfl rfl rfl (Nat.le_of_ble_eq_true rfl) ⟨Nat.le_of_ble_eq_true rfl, Nat.le_of_ble_eq_true rfl⟩ dX9_readOperand_102 (fun v_102 w_102 h_102 => ?_)
        rcases h_102 with ⟨q_g, ts_g, pl2_12, lz2_13, fs2_14, fw2_15, rfl, rfl, tplg, hRg, hqbg, hLg⟩ | ⟨q_g, t1_g, pl2_22, fa2_23, lz2_24, fs2_25, fw2_26, rfl, rfl, tplg, hRg, hqLg, hDg, hLg⟩
        · refine V_to (pc' := 105) (ls' := [(2, .int r_2), (0, .ref tp), (1, .int op_)]) (st' := []) (ws' := [(tp, .inr (8, [.ref tb, .int tl, .ref lw, .int pl2_12, .int fa])), (tb, .inl (Y 0, 120, .inl fb)), (lw, .inr (4, [.ref ws_, .ref ww, .ref wt, .ref wn, .ref wg, .ref wi, .int lz2_13])), (ws_, .inl (Y 0, 128, .inl fs2_14)), (ww, .inl (Y 0, 128, .inl fw2_15))]) ?_ rfl rfl rfl rfl
          refine V_aload_n X 1 rfl dX9_readOperand_105 ?_
          refine V_callV (C := RX9) (wr := [(lw, .inr (4, [.ref ws_, .ref ww, .ref wt, .ref wn, .ref wg, .ref wi, .int lz2_13])), (ws_, .inl (Y 0, 128, .inl fs2_14)), (ww, .inl (Y 0, 128, .inl fw2_15))]) (st := []) X (c_X9_peek l D Y tp tb lw tl pl2_12 fa q_g L c fb ttl hL tplg (by omega) hCH) 0 gX9_readOperand_X9_peek rfl (by decide +kernel) ⟨rfl, rfl⟩ ⟨(by simp only [headSpec]; omega), (by simp only [headSpec]; omega)⟩ [0, 1] [2, 3, 4] rfl rfl rfl rfl (by decide) (ci := 8) rfl rfl 0 rfl rfl rfl (Nat.le_of_ble_eq_true rfl) ⟨Nat.le_of_ble_eq_true rfl, Nat.le_of_ble_eq_true rfl⟩ dX9_readOperand_106 (fun v_106 w_106 h_106 => ?_)
          obtain ⟨r_33, rfl, rfl, hhpk_34⟩ := h_106
          refine V_to (pc' := 109) (ls' := [(2, .int r_2), (0, .ref tp), (1, .int op_)]) (st' := [.int r_33]) (ws' := [(lw, .inr (4, [.ref ws_, .ref ww, .ref wt, .ref wn, .ref wg, .ref wi, .int lz2_13])), (ws_, .inl (Y 0, 128, .inl fs2_14)), (ww, .inl (Y 0, 128, .inl fw2_15)), (tp, .inr (8, [.ref tb, .int tl, .ref lw, .int pl2_12, .int fa])), (tb, .inl (Y 0, 120, .inl fb))]) ?_ rfl rfl rfl rfl
          refine V_bipush (v := (41 : Int32)) X (by decide) dX9_readOperand_109 ?_
          have hpq := PK_0 hhpk_34 hfa
          refine V_icmp_ne X rfl (show (41 : Int32).toInt = 41 from by decide) 127 dX9_readOperand_111 (by decide) (fun c_111 => ?_) (fun c_111 => ?_)
          · refine V_aload_n X 1 rfl dX9_readOperand_127 ?_
            refine V_iconst (v := (1 : Int32)) X (by decide) dX9_readOperand_128 ?_
            refine V_put (C := RX9) (T := TX9) (N := 5) (ci := 8) (v := .int (1 : Int32)) (ty := tyX9 4) (ws' := [(lw, .inr (4, [.ref ws_, .ref ww, .ref wt, .ref wn, .ref wg, .ref wi, .int lz2_13])), (ws_, .inl (Y 0, 128, .inl fs2_14)), (ww, .inl (Y 0, 128, .inl fw2_15)), (tp, .inr (8, [.ref tb, .int tl, .ref lw, .int pl2_12, .int (1 : Int32)])), (tb, .inl (Y 0, 120, .inl fb))]) X in_X9_readOperand_X9 3 rfl rfl 4 (by decide) (List.mem_of_getElem? (i := 3) rfl) rfl tyX9 tyX9_ok nmX9 rfl (tyX9_ok 4 (by decide)) rfl rfl (Nat.le_of_ble_eq_true rfl) rfl dX9_readOperand_129 ?_
            refine V_goto X 170 (by decide) dX9_readOperand_132 ?_
            refine V_ws (ws' := [(tp, .inr (8, [.ref tb, .int tl, .ref lw, .int pl2_12, .int (1 : Int32)])), (tb, .inl (Y 0, 120, .inl fb)), (lw, .inr (4, [.ref ws_, .ref ww, .ref wt, .ref wn, .ref wg, .ref wi, .int lz2_13])), (ws_, .inl (Y 0, 128, .inl fs2_14)), (ww, .inl (Y 0, 128, .inl fw2_15))]) [3, 4, 0, 1, 2] rfl rfl rfl ?_
            exact V_vret X hr dX9_readOperand_170 (Or.inr (⟨q_g, (t0 ++ ts_g), pl2_12, (1 : Int32), lz2_13, fs2_14, fw2_15, rfl, rfl, (by omega), ((pOp_p (by omega)).trans (pPa_x hRg (by unfold PK at hpq; omega))), (by omega), (Or.inl (by decide)), hLg⟩))
          · have h41 : c q_g = 41 := by unfold PK at hpq; omega
            have hqlt2 := CHR_lt hCH (show c q_g ≠ -1 by omega)
            refine V_aload_n X 1 rfl dX9_readOperand_114 ?_
            refine V_dup X rfl dX9_readOperand_115 ?_
            refine V_get (C := RX9) (T := TX9) (N := 5) (ci := 8) (v := .int pl2_12) X in_X9_readOperand_X9 3 rfl rfl 3 (by decide) (List.mem_of_getElem? (i := 1) rfl) rfl rfl dX9_readOperand_116 ?_
            refine V_iconst (v := (1 : Int32)) X (by decide) dX9_readOperand_119 ?_
            refine V_iaddZ X tplg (show (1 : Int32).toInt = 1 from by decide) (by omega) (by omega) dX9_readOperand_120 (fun x_35 ex_35 tx_35 => ?_)
            have tx_35 : x_35.toInt = (((q_g + 1) : Nat) : Int) := by omega
            refine V_put (C := RX9) (T := TX9) (N := 5) (ci := 8) (v := .int x_35) (ty := tyX9 3) (ws' := [(lw, .inr (4, [.ref ws_, .ref ww, .ref wt, .ref wn, .ref wg, .ref wi, .int lz2_13])), (ws_, .inl (Y 0, 128, .inl fs2_14)), (ww, .inl (Y 0, 128, .inl fw2_15)), (tp, .inr (8, [.ref tb, .int tl, .ref lw, .int x_35, .int fa])), (tb, .inl (Y 0, 120, .inl fb))]) X in_X9_readOperand_X9 3 rfl rfl 3 (by decide) (List.mem_of_getElem? (i := 1) rfl) rfl tyX9 tyX9_ok nmX9 rfl (tyX9_ok 3 (by decide)) rfl rfl (Nat.le_of_ble_eq_true rfl) rfl dX9_readOperand_121 ?_
            refine V_goto X 170 (by decide) dX9_readOperand_124 ?_
            refine V_ws (ws' := [(tp, .inr (8, [.ref tb, .int tl, .ref lw, .int x_35, .int fa])), (tb, .inl (Y 0, 120, .inl fb)), (lw, .inr (4, [.ref ws_, .ref ww, .ref wt, .ref wn, .ref wg, .ref wi, .int lz2_13])), (ws_, .inl (Y 0, 128, .inl fs2_14)), (ww, .inl (Y 0, 128, .inl fw2_15))]) [3, 4, 0, 1, 2] rfl rfl rfl ?_
            exact V_vret X hr dX9_readOperand_170 (Or.inl ⟨(q_g + 1), ts_g, x_35, lz2_13, fs2_14, fw2_15, rfl, rfl, (by omega), ((pOp_p (by omega)).trans (pPa_s hRg h41)), ⟨by omega, by omega⟩, hLg⟩)
        · refine V_to (pc' := 105) (ls' := [(2, .int r_2), (0, .ref tp), (1, .int op_)]) (st' := []) (ws' := [(tp, .inr (8, [.ref tb, .int tl, .ref lw, .int pl2_22, .int fa2_23])), (tb, .inl (Y 0, 120, .inl fb)), (lw, .inr (4, [.ref ws_, .ref ww, .ref wt, .ref wn, .ref wg, .ref wi, .int lz2_24])), (ws_, .inl (Y 0, 128, .inl fs2_25)), (ww, .inl (Y 0, 128, .inl fw2_26))]) ?_ rfl rfl rfl rfl
          refine V_aload_n X 1 rfl dX9_readOperand_105 ?_
          refine V_callV (C := RX9) (wr := [(lw, .inr (4, [.ref ws_, .ref ww, .ref wt, .ref wn, .ref wg, .ref wi, .int lz2_24])), (ws_, .inl (Y 0, 128, .inl fs2_25)), (ww, .inl (Y 0, 128, .inl fw2_26))]) (st := []) X (c_X9_peek l D Y tp tb lw tl pl2_22 fa2_23 q_g L c fb ttl hL tplg hqLg hCH) 0 gX9_readOperand_X9_peek rfl (by decide +kernel) ⟨rfl, rfl⟩ ⟨(by simp only [headSpec]; omega), (by simp only [headSpec]; omega)⟩ [0, 1] [2, 3, 4] rfl rfl rfl rfl (by decide) (ci := 8) rfl rfl 0 rfl rfl rfl (Nat.le_of_ble_eq_true rfl) ⟨Nat.le_of_ble_eq_true rfl, Nat.le_of_ble_eq_true rfl⟩ dX9_readOperand_106 (fun v_106 w_106 h_106 => ?_)
          obtain ⟨r_37, rfl, rfl, hhpk_38⟩ := h_106
          refine V_to (pc' := 109) (ls' := [(2, .int r_2), (0, .ref tp), (1, .int op_)]) (st' := [.int r_37]) (ws' := [(lw, .inr (4, [.ref ws_, .ref ww, .ref wt, .ref wn, .ref wg, .ref wi, .int lz2_24])), (ws_, .inl (Y 0, 128, .inl fs2_25)), (ww, .inl (Y 0, 128, .inl fw2_26)), (tp, .inr (8, [.ref tb, .int tl, .ref lw, .int pl2_22, .int fa2_23])), (tb, .inl (Y 0, 120, .inl fb))]) ?_ rfl rfl rfl rfl
          refine V_bipush (v := (41 : Int32)) X (by decide) dX9_readOperand_109 ?_
          have hpd := PK_dead hhpk_38 hDg
          refine V_icmp_ne X rfl (show (41 : Int32).toInt = 41 from by decide) 127 dX9_readOperand_111 (by decide) (fun c_111 => ?_) (fun c_111 => False.elim (by omega))
          refine V_aload_n X 1 rfl dX9_readOperand_127 ?_
          refine V_iconst (v := (1 : Int32)) X (by decide) dX9_readOperand_128 ?_
          refine V_put (C := RX9) (T := TX9) (N := 5) (ci := 8) (v := .int (1 : Int32)) (ty := tyX9 4) (ws' := [(lw, .inr (4, [.ref ws_, .ref ww, .ref wt, .ref wn, .ref wg, .ref wi, .int lz2_24])), (ws_, .inl (Y 0, 128, .inl fs2_25)), (ww, .inl (Y 0, 128, .inl fw2_26)), (tp, .inr (8, [.ref tb, .int tl, .ref lw, .int pl2_22, .int (1 : Int32)])), (tb, .inl (Y 0, 120, .inl fb))]) X in_X9_readOperand_X9 3 rfl rfl 4 (by decide) (List.mem_of_getElem? (i := 3) rfl) rfl tyX9 tyX9_ok nmX9 rfl (tyX9_ok 4 (by decide)) rfl rfl (Nat.le_of_ble_eq_true rfl) rfl dX9_readOperand_129 ?_
          refine V_goto X 170 (by decide) dX9_readOperand_132 ?_
          refine V_ws (ws' := [(tp, .inr (8, [.ref tb, .int tl, .ref lw, .int pl2_22, .int (1 : Int32)])), (tb, .inl (Y 0, 120, .inl fb)), (lw, .inr (4, [.ref ws_, .ref ww, .ref wt, .ref wn, .ref wg, .ref wi, .int lz2_24])), (ws_, .inl (Y 0, 128, .inl fs2_25)), (ww, .inl (Y 0, 128, .inl fw2_26))]) [3, 4, 0, 1, 2] rfl rfl rfl ?_
          exact V_vret X hr dX9_readOperand_170 (Or.inr (⟨q_g, t1_g, pl2_22, (1 : Int32), lz2_24, fs2_25, fw2_26, rfl, rfl, (by omega), ((pOp_p (by omega)).trans (pBd_n hRg)), (by omega), (Or.inl (by decide)), hLg⟩))
      · refine V_iload_n X 0 rfl dX9_readOperand_63 ?_
        refine V_bipush (v := (33 : Int32)) X (by decide) dX9_readOperand_64 ?_
        refine V_icmp_eq X rfl (show (33 : Int32).toInt = 33 from by decide) 75 dX9_readOperand_66 (by decide) (fun c_66 => ?_) (fun c_66 => ?_)
        · refine V_iload_n X 2 rfl dX9_readOperand_75 ?_
          refine V_bipush (v := (6 : Int32)) X (by decide) dX9_readOperand_76 ?_
          refine V_icmp_ge X top_ (show (6 : Int32).toInt = 6 from by decide) 165 dX9_readOperand_78 (by decide) (fun c_78 => False.elim (by omega)) (fun c_78 => ?_)
          have hcr : c pos = r_2.toInt := by unfold PK at hpe; omega
          have hqlt := CHR_lt hCH (show c pos ≠ -1 by omega)
          refine V_aload_n X 1 rfl dX9_readOperand_81 ?_
          refine V_dup X rfl dX9_readOperand_82 ?_
          refine V_get (C := RX9) (T := TX9) (N := 5) (ci := 8) (v := .int pl) X in_X9_readOperand_X9 3 rfl rfl 3 (by decide) (List.mem_of_getElem? (i := 1) rfl) rfl rfl dX9_readOperand_83 ?_
          refine V_iconst (v := (1 : Int32)) X (by decide) dX9_readOperand_86 ?_
          refine V_iaddZ X tpl (show (1 : Int32).toInt = 1 from by decide) (by omega) (by omega) dX9_readOperand_87 (fun x_39 ex_39 tx_39 => ?_)
          have tx_39 : x_39.toInt = (((pos + 1) : Nat) : Int) := by omega
          refine V_put (C := RX9) (T := TX9) (N := 5) (ci := 8) (v := .int x_39) (ty := tyX9 3) (ws' := [(lw, .inr (4, [.ref ws_, .ref ww, .ref wt, .ref wn, .ref wg, .ref wi, .int lz])), (ws_, .inl (Y 0, 128, .inl fs)), (ww, .inl (Y 0, 128, .inl fw)), (tp, .inr (8, [.ref tb, .int tl, .ref lw, .int x_39, .int fa])), (tb, .inl (Y 0, 120, .inl fb))]) X in_X9_readOperand_X9 3 rfl rfl 3 (by decide) (List.mem_of_getElem? (i := 1) rfl) rfl tyX9 tyX9_ok nmX9 rfl (tyX9_ok 3 (by decide)) rfl rfl (Nat.le_of_ble_eq_true rfl) rfl dX9_readOperand_88 ?_
          refine V_iload_n X 0 rfl dX9_readOperand_91 ?_
          refine V_bipush (v := (40 : Int32)) X (by decide) dX9_readOperand_92 ?_
          refine V_icmp_ne X rfl (show (40 : Int32).toInt = 40 from by decide) 135 dX9_readOperand_94 (by decide) (fun c_94 => ?_) (fun c_94 => False.elim (by omega))
          refine V_aload_n X 1 rfl dX9_readOperand_135 ?_
          refine V_iload_n X 2 rfl dX9_readOperand_136 ?_
          refine V_iconst (v := (1 : Int32)) X (by decide) dX9_readOperand_137 ?_
          refine V_iaddZ X top_ (show (1 : Int32).toInt = 1 from by decide) (by omega) (by omega) dX9_readOperand_138 (fun x_40 ex_40 tx_40 => ?_)
          have tx_40 : x_40.toInt = (((opn + 1) : Nat) : Int) := by omega
          refine V_callV (C := RX9) (wr := []) (st := []) X (ihO l D Y tp tb lw tl x_39 fa (pos + 1) L c ws_ ww wt wn wg wi lz fs fw t0 fb x_40 (opn + 1) ttl hL tx_39 (by omega) hCH hLC hfa (by omega) tx_40 (by omega)) 1 gX9_readOperand_X9_readOperand rfl (by decide +kernel) ⟨rfl, rfl⟩ ⟨(by simp only [headSpec]; omega), (by simp only [headSpec]; omega)⟩ [3, 4, 0, 1, 2] [] rfl rfl rfl rfl (by decide) (ci := 8) rfl rfl 0 rfl rfl rfl (Nat.le_of_ble_eq_true rfl) ⟨Nat.le_of_ble_eq_true rfl, Nat.le_of_ble_eq_true rfl⟩ dX9_readOperand_139 (fun v_139 w_139 h_139 => ?_)
          rcases h_139 with ⟨q_h, ts_h, pl2_44, lz2_45, fs2_46, fw2_47, rfl, rfl, tplh, hRh, hqbh, hLh⟩ | ⟨q_h, t1_h, pl2_54, fa2_55, lz2_56, fs2_57, fw2_58, rfl, rfl, tplh, hRh, hqLh, hDh, hLh⟩
          · refine V_to (pc' := 142) (ls' := [(2, .int r_2), (0, .ref tp), (1, .int op_)]) (st' := []) (ws' := [(tp, .inr (8, [.ref tb, .int tl, .ref lw, .int pl2_44, .int fa])), (tb, .inl (Y 0, 120, .inl fb)), (lw, .inr (4, [.ref ws_, .ref ww, .ref wt, .ref wn, .ref wg, .ref wi, .int lz2_45])), (ws_, .inl (Y 0, 128, .inl fs2_46)), (ww, .inl (Y 0, 128, .inl fw2_47))]) ?_ rfl rfl rfl rfl
            refine V_aload_n X 1 rfl dX9_readOperand_142 ?_
            refine V_get (C := RX9) (T := TX9) (N := 5) (ci := 8) (v := .ref lw) X in_X9_readOperand_X9 0 rfl rfl 2 (by decide) (List.mem_of_getElem? (i := 2) rfl) rfl rfl dX9_readOperand_143 ?_
            refine V_iload_n X 0 rfl dX9_readOperand_146 ?_
            refine V_bipush (v := (45 : Int32)) X (by decide) dX9_readOperand_147 ?_
            refine V_icmp_ne X rfl (show (45 : Int32).toInt = 45 from by decide) 157 dX9_readOperand_149 (by decide) (fun c_149 => ?_) (fun c_149 => False.elim (by omega))
            refine V_iload_n X 0 rfl dX9_readOperand_157 ?_
            refine V_iconst (v := (0 : Int32)) X (by decide) dX9_readOperand_158 ?_
            refine V_callV (C := RX5) (wr := [(tp, .inr (8, [.ref tb, .int tl, .ref lw, .int pl2_44, .int fa])), (tb, .inl (Y 0, 120, .inl fb))]) (st := []) X (c_X5_addT l D Y lw ws_ ww wt wn wg wi lz2_45 fs2_46 fw2_47 (t0 + + ts_h) r_2 (0 : Int32) hLh) 2 gX9_readOperand_X5_add rfl (by decide +kernel) ⟨rfl, rfl⟩ ⟨(by simp only [headSpec]; omega), (by simp only [headSpec]; omega)⟩ [2, 3, 4] [0, 1] rfl rfl rfl rfl (by decide) (ci := 4) rfl rfl 0 rfl rfl rfl (Nat.le_of_ble_eq_true rfl) ⟨Nat.le_of_ble_eq_true rfl, Nat.le_of_ble_eq_true rfl⟩ dX9_readOperand_159 (fun v_159 w_159 h_159 => ?_)
            obtain ⟨lz2_65, fs2_66, fw2_67, t_b, rfl, rfl, hLb, htb⟩ := h_159
            refine V_to (pc' := 162) (ls' := [(2, .int r_2), (0, .ref tp), (1, .int op_)]) (st' := []) (ws' := [(tp, .inr (8, [.ref tb, .int tl, .ref lw, .int pl2_44, .int fa])), (tb, .inl (Y 0, 120, .inl fb)), (lw, .inr (4, [.ref ws_, .ref ww, .ref wt, .ref wn, .ref wg, .ref wi, .int lz2_65])), (ws_, .inl (Y 0, 128, .inl fs2_66)), (ww, .inl (Y 0, 128, .inl fw2_67))]) ?_ rfl rfl rfl rfl
            have hc_0 : (0 : Int32).toInt = 0 := by decide
            have htb9 : t_b = t0 ++ (ts_h ++ [((if c pos = 45 then 126 else 33), 0)]) := by have h9 := htb (by rw [List.length_append]; omega); rw [show (0 : Int32).toInt = 0 from by decide, show r_2.toInt = (if c pos = 45 then 126 else 33) from by rw [if_neg (by omega)]; omega] at h9; rw [h9, LC_app]
            refine V_goto X 170 (by decide) dX9_readOperand_162 ?_
            exact V_vret X hr dX9_readOperand_170 (Or.inl ⟨q_h, (ts_h ++ [((if c pos = 45 then 126 else 33), 0)]), pl2_44, lz2_65, fs2_66, fw2_67, rfl, rfl, (by omega), ((pOp_u (by omega)).trans (pNe_s hRh)), ⟨by rw [List.length_append]; show pos + (ts_h.length + 1) ≤ q_h; omega, hqbh.2⟩, (htb9 ▸ hLb)⟩)
          · refine V_to (pc' := 142) (ls' := [(2, .int r_2), (0, .ref tp), (1, .int op_)]) (st' := []) (ws' := [(tp, .inr (8, [.ref tb, .int tl, .ref lw, .int pl2_54, .int fa2_55])), (tb, .inl (Y 0, 120, .inl fb)), (lw, .inr (4, [.ref ws_, .ref ww, .ref wt, .ref wn, .ref wg, .ref wi, .int lz2_56])), (ws_, .inl (Y 0, 128, .inl fs2_57)), (ww, .inl (Y 0, 128, .inl fw2_58))]) ?_ rfl rfl rfl rfl
            refine V_aload_n X 1 rfl dX9_readOperand_142 ?_
            refine V_get (C := RX9) (T := TX9) (N := 5) (ci := 8) (v := .ref lw) X in_X9_readOperand_X9 0 rfl rfl 2 (by decide) (List.mem_of_getElem? (i := 2) rfl) rfl rfl dX9_readOperand_143 ?_
            refine V_iload_n X 0 rfl dX9_readOperand_146 ?_
            refine V_bipush (v := (45 : Int32)) X (by decide) dX9_readOperand_147 ?_
            refine V_icmp_ne X rfl (show (45 : Int32).toInt = 45 from by decide) 157 dX9_readOperand_149 (by decide) (fun c_149 => ?_) (fun c_149 => False.elim (by omega))
            refine V_iload_n X 0 rfl dX9_readOperand_157 ?_
            refine V_iconst (v := (0 : Int32)) X (by decide) dX9_readOperand_158 ?_
            refine V_callV (C := RX5) (wr := [(tp, .inr (8, [.ref tb, .int tl, .ref lw, .int pl2_54, .int fa2_55])), (tb, .inl (Y 0, 120, .inl fb))]) (st := []) X (c_X5_addT l D Y lw ws_ ww wt wn wg wi lz2_56 fs2_57 fw2_58 t1_h r_2 (0 : Int32) hLh) 2 gX9_readOperand_X5_add rfl (by decide +kernel) ⟨rfl, rfl⟩ ⟨(by simp only [headSpec]; omega), (by simp only [headSpec]; omega)⟩ [2, 3, 4] [0, 1] rfl rfl rfl rfl (by decide) (ci := 4) rfl rfl 0 rfl rfl rfl (Nat.le_of_ble_eq_true rfl) ⟨Nat.le_of_ble_eq_true rfl, Nat.le_of_ble_eq_true rfl⟩ dX9_readOperand_159 (fun v_159 w_159 h_159 => ?_)
            obtain ⟨lz2_72, fs2_73, fw2_74, t_b, rfl, rfl, hLb, htb⟩ := h_159
            refine V_to (pc' := 162) (ls' := [(2, .int r_2), (0, .ref tp), (1, .int op_)]) (st' := []) (ws' := [(tp, .inr (8, [.ref tb, .int tl, .ref lw, .int pl2_54, .int fa2_55])), (tb, .inl (Y 0, 120, .inl fb)), (lw, .inr (4, [.ref ws_, .ref ww, .ref wt, .ref wn, .ref wg, .ref wi, .int lz2_72])), (ws_, .inl (Y 0, 128, .inl fs2_73)), (ww, .inl (Y 0, 128, .inl fw2_74))]) ?_ rfl rfl rfl rfl
            have hc_0 : (0 : Int32).toInt = 0 := by decide
            refine V_goto X 170 (by decide) dX9_readOperand_162 ?_
            exact V_vret X hr dX9_readOperand_170 (Or.inr (⟨q_h, t_b, pl2_54, fa2_55, lz2_72, fs2_73, fw2_74, rfl, rfl, (by omega), ((pOp_u (by omega)).trans (pBd_n hRh)), (by omega), hDh, hLb⟩))
        · refine V_iload_n X 0 rfl dX9_readOperand_69 ?_
          refine V_bipush (v := (45 : Int32)) X (by decide) dX9_readOperand_70 ?_
          refine V_icmp_ne X rfl (show (45 : Int32).toInt = 45 from by decide) 165 dX9_readOperand_72 (by decide) (fun c_72 => ?_) (fun c_72 => ?_)
          · refine V_aload_n X 1 rfl dX9_readOperand_165 ?_
            refine V_iconst (v := (1 : Int32)) X (by decide) dX9_readOperand_166 ?_
            refine V_put (C := RX9) (T := TX9) (N := 5) (ci := 8) (v := .int (1 : Int32)) (ty := tyX9 4) (ws' := [(lw, .inr (4, [.ref ws_, .ref ww, .ref wt, .ref wn, .ref wg, .ref wi, .int lz])), (ws_, .inl (Y 0, 128, .inl fs)), (ww, .inl (Y 0, 128, .inl fw)), (tp, .inr (8, [.ref tb, .int tl, .ref lw, .int pl, .int (1 : Int32)])), (tb, .inl (Y 0, 120, .inl fb))]) X in_X9_readOperand_X9 3 rfl rfl 4 (by decide) (List.mem_of_getElem? (i := 3) rfl) rfl tyX9 tyX9_ok nmX9 rfl (tyX9_ok 4 (by decide)) rfl rfl (Nat.le_of_ble_eq_true rfl) rfl dX9_readOperand_167 ?_
            refine V_ws (ws' := [(tp, .inr (8, [.ref tb, .int tl, .ref lw, .int pl, .int (1 : Int32)])), (tb, .inl (Y 0, 120, .inl fb)), (lw, .inr (4, [.ref ws_, .ref ww, .ref wt, .ref wn, .ref wg, .ref wi, .int lz])), (ws_, .inl (Y 0, 128, .inl fs)), (ww, .inl (Y 0, 128, .inl fw))]) [3, 4, 0, 1, 2] rfl rfl rfl ?_
            exact V_vret X hr dX9_readOperand_170 (Or.inr (⟨pos, t0, pl, (1 : Int32), lz, fs, fw, rfl, rfl, (by omega), (pOp_x hng hnn (Or.inr (by unfold PK at hpe; omega))), (by omega), (Or.inl (by decide)), hLC⟩))
          · refine V_iload_n X 2 rfl dX9_readOperand_75 ?_
            refine V_bipush (v := (6 : Int32)) X (by decide) dX9_readOperand_76 ?_
            refine V_icmp_ge X top_ (show (6 : Int32).toInt = 6 from by decide) 165 dX9_readOperand_78 (by decide) (fun c_78 => False.elim (by omega)) (fun c_78 => ?_)
            have hcr : c pos = r_2.toInt := by unfold PK at hpe; omega
            have hqlt := CHR_lt hCH (show c pos ≠ -1 by omega)
            refine V_aload_n X 1 rfl dX9_readOperand_81 ?_
            refine V_dup X rfl dX9_readOperand_82 ?_
            refine V_get (C := RX9) (T := TX9) (N := 5) (ci := 8) (v := .int pl) X in_X9_readOperand_X9 3 rfl rfl 3 (by decide) (List.mem_of_getElem? (i := 1) rfl) rfl rfl dX9_readOperand_83 ?_
            refine V_iconst (v := (1 : Int32)) X (by decide) dX9_readOperand_86 ?_
            refine V_iaddZ X tpl (show (1 : Int32).toInt = 1 from by decide) (by omega) (by omega) dX9_readOperand_87 (fun x_78 ex_78 tx_78 => ?_)
            have tx_78 : x_78.toInt = (((pos + 1) : Nat) : Int) := by omega
            refine V_put (C := RX9) (T := TX9) (N := 5) (ci := 8) (v := .int x_78) (ty := tyX9 3) (ws' := [(lw, .inr (4, [.ref ws_, .ref ww, .ref wt, .ref wn, .ref wg, .ref wi, .int lz])), (ws_, .inl (Y 0, 128, .inl fs)), (ww, .inl (Y 0, 128, .inl fw)), (tp, .inr (8, [.ref tb, .int tl, .ref lw, .int x_78, .int fa])), (tb, .inl (Y 0, 120, .inl fb))]) X in_X9_readOperand_X9 3 rfl rfl 3 (by decide) (List.mem_of_getElem? (i := 1) rfl) rfl tyX9 tyX9_ok nmX9 rfl (tyX9_ok 3 (by decide)) rfl rfl (Nat.le_of_ble_eq_true rfl) rfl dX9_readOperand_88 ?_
            refine V_iload_n X 0 rfl dX9_readOperand_91 ?_
            refine V_bipush (v := (40 : Int32)) X (by decide) dX9_readOperand_92 ?_
            refine V_icmp_ne X rfl (show (40 : Int32).toInt = 40 from by decide) 135 dX9_readOperand_94 (by decide) (fun c_94 => ?_) (fun c_94 => False.elim (by omega))
            refine V_aload_n X 1 rfl dX9_readOperand_135 ?_
            refine V_iload_n X 2 rfl dX9_readOperand_136 ?_
            refine V_iconst (v := (1 : Int32)) X (by decide) dX9_readOperand_137 ?_
            refine V_iaddZ X top_ (show (1 : Int32).toInt = 1 from by decide) (by omega) (by omega) dX9_readOperand_138 (fun x_79 ex_79 tx_79 => ?_)
            have tx_79 : x_79.toInt = (((opn + 1) : Nat) : Int) := by omega
            refine V_callV (C := RX9) (wr := []) (st := []) X (ihO l D Y tp tb lw tl x_78 fa (pos + 1) L c ws_ ww wt wn wg wi lz fs fw t0 fb x_79 (opn + 1) ttl hL tx_78 (by omega) hCH hLC hfa (by omega) tx_79 (by omega)) 1 gX9_readOperand_X9_readOperand rfl (by decide +kernel) ⟨rfl, rfl⟩ ⟨(by simp only [headSpec]; omega), (by simp only [headSpec]; omega)⟩ [3, 4, 0, 1, 2] [] rfl rfl rfl rfl (by decide) (ci := 8) rfl rfl 0 rfl rfl rfl (Nat.le_of_ble_eq_true rfl) ⟨Nat.le_of_ble_eq_true rfl, Nat.le_of_ble_eq_true rfl⟩ dX9_readOperand_139 (fun v_139 w_139 h_139 => ?_)
            rcases h_139 with ⟨q_h, ts_h, pl2_83, lz2_84, fs2_85, fw2_86, rfl, rfl, tplh, hRh, hqbh, hLh⟩ | ⟨q_h, t1_h, pl2_93, fa2_94, lz2_95, fs2_96, fw2_97, rfl, rfl, tplh, hRh, hqLh, hDh, hLh⟩
            · refine V_to (pc' := 142) (ls' := [(2, .int r_2), (0, .ref tp), (1, .int op_)]) (st' := []) (ws' := [(tp, .inr (8, [.ref tb, .int tl, .ref lw, .int pl2_83, .int fa])), (tb, .inl (Y 0, 120, .inl fb)), (lw, .inr (4, [.ref ws_, .ref ww, .ref wt, .ref wn, .ref wg, .ref wi, .int lz2_84])), (ws_, .inl (Y 0, 128, .inl fs2_85)), (ww, .inl (Y 0, 128, .inl fw2_86))]) ?_ rfl rfl rfl rfl
              refine V_aload_n X 1 rfl dX9_readOperand_142 ?_
              refine V_get (C := RX9) (T := TX9) (N := 5) (ci := 8) (v := .ref lw) X in_X9_readOperand_X9 0 rfl rfl 2 (by decide) (List.mem_of_getElem? (i := 2) rfl) rfl rfl dX9_readOperand_143 ?_
              refine V_iload_n X 0 rfl dX9_readOperand_146 ?_
              refine V_bipush (v := (45 : Int32)) X (by decide) dX9_readOperand_147 ?_
              refine V_icmp_ne X rfl (show (45 : Int32).toInt = 45 from by decide) 157 dX9_readOperand_149 (by decide) (fun c_149 => False.elim (by omega)) (fun c_149 => ?_)
              refine V_bipush (v := (126 : Int32)) X (by decide) dX9_readOperand_152 ?_
              refine V_goto X 158 (by decide) dX9_readOperand_154 ?_
              refine V_iconst (v := (0 : Int32)) X (by decide) dX9_readOperand_158 ?_
              refine V_callV (C := RX5) (wr := [(tp, .inr (8, [.ref tb, .int tl, .ref lw, .int pl2_83, .int fa])), (tb, .inl (Y 0, 120, .inl fb))]) (st := []) X (c_X5_addT l D Y lw ws_ ww wt wn wg wi lz2_84 fs2_85 fw2_86 (t0 + + ts_h) (126 : Int32) (0 : Int32) hLh) 2 gX9_readOperand_X5_add rfl (by decide +kernel) ⟨rfl, rfl⟩ ⟨(by simp only [headSpec]; omega), (by simp only [headSpec]; omega)⟩ [2, 3, 4] [0, 1] rfl rfl rfl rfl (by decide) (ci := 4) rfl rfl 0 rfl rfl rfl (Nat.le_of_ble_eq_true rfl) ⟨Nat.le_of_ble_eq_true rfl, Nat.le_of_ble_eq_true rfl⟩ dX9_readOperand_159 (fun v_159 w_159 h_159 => ?_)
              obtain ⟨lz2_104, fs2_105, fw2_106, t_b, rfl, rfl, hLb, htb⟩ := h_159
              refine V_to (pc' := 162) (ls' := [(2, .int r_2), (0, .ref tp), (1, .int op_)]) (st' := []) (ws' := [(tp, .inr (8, [.ref tb, .int tl, .ref lw, .int pl2_83, .int fa])), (tb, .inl (Y 0, 120, .inl fb)), (lw, .inr (4, [.ref ws_, .ref ww, .ref wt, .ref wn, .ref wg, .ref wi, .int lz2_104])), (ws_, .inl (Y 0, 128, .inl fs2_105)), (ww, .inl (Y 0, 128, .inl fw2_106))]) ?_ rfl rfl rfl rfl
              have hc_0 : (0 : Int32).toInt = 0 := by decide
              have hc_126 : (126 : Int32).toInt = 126 := by decide
              have htb9 : t_b = t0 ++ (ts_h ++ [((if c pos = 45 then 126 else 33), 0)]) := by have h9 := htb (by rw [List.length_append]; omega); rw [show (0 : Int32).toInt = 0 from by decide, show (126 : Int32).toInt = (if c pos = 45 then 126 else 33) from by rw [if_pos (by omega)]; decide] at h9; rw [h9, LC_app]
              refine V_goto X 170 (by decide) dX9_readOperand_162 ?_
              exact V_vret X hr dX9_readOperand_170 (Or.inl ⟨q_h, (ts_h ++ [((if c pos = 45 then 126 else 33), 0)]), pl2_83, lz2_104, fs2_105, fw2_106, rfl, rfl, (by omega), ((pOp_u (by omega)).trans (pNe_s hRh)), ⟨by rw [List.length_append]; show pos + (ts_h.length + 1) ≤ q_h; omega, hqbh.2⟩, (htb9 ▸ hLb)⟩)
            · refine V_to (pc' := 142) (ls' := [(2, .int r_2), (0, .ref tp), (1, .int op_)]) (st' := []) (ws' := [(tp, .inr (8, [.ref tb, .int tl, .ref lw, .int pl2_93, .int fa2_94])), (tb, .inl (Y 0, 120, .inl fb)), (lw, .inr (4, [.ref ws_, .ref ww, .ref wt, .ref wn, .ref wg, .ref wi, .int lz2_95])), (ws_, .inl (Y 0, 128, .inl fs2_96)), (ww, .inl (Y 0, 128, .inl fw2_97))]) ?_ rfl rfl rfl rfl
              refine V_aload_n X 1 rfl dX9_readOperand_142 ?_
              refine V_get (C := RX9) (T := TX9) (N := 5) (ci := 8) (v := .ref lw) X in_X9_readOperand_X9 0 rfl rfl 2 (by decide) (List.mem_of_getElem? (i := 2) rfl) rfl rfl dX9_readOperand_143 ?_
              refine V_iload_n X 0 rfl dX9_readOperand_146 ?_
              refine V_bipush (v := (45 : Int32)) X (by decide) dX9_readOperand_147 ?_
              refine V_icmp_ne X rfl (show (45 : Int32).toInt = 45 from by decide) 157 dX9_readOperand_149 (by decide) (fun c_149 => False.elim (by omega)) (fun c_149 => ?_)
              refine V_bipush (v := (126 : Int32)) X (by decide) dX9_readOperand_152 ?_
              refine V_goto X 158 (by decide) dX9_readOperand_154 ?_
              refine V_iconst (v := (0 : Int32)) X (by decide) dX9_readOperand_158 ?_
              refine V_callV (C := RX5) (wr := [(tp, .inr (8, [.ref tb, .int tl, .ref lw, .int pl2_93, .int fa2_94])), (tb, .inl (Y 0, 120, .inl fb))]) (st := []) X (c_X5_addT l D Y lw ws_ ww wt wn wg wi lz2_95 fs2_96 fw2_97 t1_h (126 : Int32) (0 : Int32) hLh) 2 gX9_readOperand_X5_add rfl (by decide +kernel) ⟨rfl, rfl⟩ ⟨(by simp only [headSpec]; omega), (by simp only [headSpec]; omega)⟩ [2, 3, 4] [0, 1] rfl rfl rfl rfl (by decide) (ci := 4) rfl rfl 0 rfl rfl rfl (Nat.le_of_ble_eq_true rfl) ⟨Nat.le_of_ble_eq_true rfl, Nat.le_of_ble_eq_true rfl⟩ dX9_readOperand_159 (fun v_159 w_159 h_159 => ?_)
              obtain ⟨lz2_111, fs2_112, fw2_113, t_b, rfl, rfl, hLb, htb⟩ := h_159
              refine V_to (pc' := 162) (ls' := [(2, .int r_2), (0, .ref tp), (1, .int op_)]) (st' := []) (ws' := [(tp, .inr (8, [.ref tb, .int tl, .ref lw, .int pl2_93, .int fa2_94])), (tb, .inl (Y 0, 120, .inl fb)), (lw, .inr (4, [.ref ws_, .ref ww, .ref wt, .ref wn, .ref wg, .ref wi, .int lz2_111])), (ws_, .inl (Y 0, 128, .inl fs2_112)), (ww, .inl (Y 0, 128, .inl fw2_113))]) ?_ rfl rfl rfl rfl
              have hc_0 : (0 : Int32).toInt = 0 := by decide
              have hc_126 : (126 : Int32).toInt = 126 := by decide
              refine V_goto X 170 (by decide) dX9_readOperand_162 ?_
              exact V_vret X hr dX9_readOperand_170 (Or.inr (⟨q_h, t_b, pl2_93, fa2_94, lz2_111, fs2_112, fw2_113, rfl, rfl, (by omega), ((pOp_u (by omega)).trans (pBd_n hRh)), (by omega), hDh, hLb⟩))
    · have hnm : 0 ≤ nmC (c pos) := by rw [← nmC_PK hpe]; omega
      have hnb := nmC_big hnm
      have hqlt := CHR_lt hCH (show c pos ≠ -1 by omega)
      refine V_aload_n X 1 rfl dX9_readOperand_31 ?_
      refine V_dup X rfl dX9_readOperand_32 ?_
      refine V_get (C := RX9) (T := TX9) (N := 5) (ci := 8) (v := .int pl) X in_X9_readOperand_X9 3 rfl rfl 3 (by decide) (List.mem_of_getElem? (i := 1) rfl) rfl rfl dX9_readOperand_33 ?_
      refine V_iconst (v := (1 : Int32)) X (by decide) dX9_readOperand_36 ?_
      refine V_iaddZ X tpl (show (1 : Int32).toInt = 1 from by decide) (by omega) (by omega) dX9_readOperand_37 (fun x_117 ex_117 tx_117 => ?_)
      have tx_117 : x_117.toInt = (((pos + 1) : Nat) : Int) := by omega
      refine V_put (C := RX9) (T := TX9) (N := 5) (ci := 8) (v := .int x_117) (ty := tyX9 3) (ws' := [(lw, .inr (4, [.ref ws_, .ref ww, .ref wt, .ref wn, .ref wg, .ref wi, .int lz])), (ws_, .inl (Y 0, 128, .inl fs)), (ww, .inl (Y 0, 128, .inl fw)), (tp, .inr (8, [.ref tb, .int tl, .ref lw, .int x_117, .int fa])), (tb, .inl (Y 0, 120, .inl fb))]) X in_X9_readOperand_X9 3 rfl rfl 3 (by decide) (List.mem_of_getElem? (i := 1) rfl) rfl tyX9 tyX9_ok nmX9 rfl (tyX9_ok 3 (by decide)) rfl rfl (Nat.le_of_ble_eq_true rfl) rfl dX9_readOperand_38 ?_
      refine V_aload_n X 1 rfl dX9_readOperand_41 ?_
      refine V_get (C := RX9) (T := TX9) (N := 5) (ci := 8) (v := .ref lw) X in_X9_readOperand_X9 3 rfl rfl 2 (by decide) (List.mem_of_getElem? (i := 2) rfl) rfl rfl dX9_readOperand_42 ?_
      refine V_bipush (v := (97 : Int32)) X (by decide) dX9_readOperand_45 ?_
      refine V_iload_n X 0 rfl dX9_readOperand_47 ?_
      refine V_callS (wr := [(lw, .inr (4, [.ref ws_, .ref ww, .ref wt, .ref wn, .ref wg, .ref wi, .int lz])), (ws_, .inl (Y 0, 128, .inl fs)), (ww, .inl (Y 0, 128, .inl fw)), (tp, .inr (8, [.ref tb, .int tl, .ref lw, .int x_117, .int fa])), (tb, .inl (Y 0, 120, .inl fb))]) (st := [.int (97 : Int32), .ref lw]) X (c_X9_nameOf l D Y r_2) 1 gX9_readOperand_X9_nameOf rfl (by decide +kernel) ⟨rfl, rfl⟩ ⟨(by simp only [headSpec]; omega), (by simp only [headSpec]; omega)⟩ [] [0, 1, 2, 3, 4] rfl rfl rfl rfl (by decide) rfl rfl (Nat.le_of_ble_eq_true rfl) ⟨Nat.le_of_ble_eq_true rfl, Nat.le_of_ble_eq_true rfl⟩ dX9_readOperand_48 (fun v_48 w_48 h_48 => ?_)
      obtain ⟨r_119, rfl, rfl, htr_120⟩ := h_48
      refine V_to (pc' := 51) (ls' := [(2, .int r_2), (0, .ref tp), (1, .int op_)]) (st' := [.int r_119, .int (97 : Int32), .ref lw]) (ws' := [(lw, .inr (4, [.ref ws_, .ref ww, .ref wt, .ref wn, .ref wg, .ref wi, .int lz])), (ws_, .inl (Y 0, 128, .inl fs)), (ww, .inl (Y 0, 128, .inl fw)), (tp, .inr (8, [.ref tb, .int tl, .ref lw, .int x_117, .int fa])), (tb, .inl (Y 0, 120, .inl fb))]) ?_ rfl rfl rfl rfl
      refine V_callV (C := RX5) (wr := [(tp, .inr (8, [.ref tb, .int tl, .ref lw, .int x_117, .int fa])), (tb, .inl (Y 0, 120, .inl fb))]) (st := []) X (c_X5_addT l D Y lw ws_ ww wt wn wg wi lz fs fw t0 (97 : Int32) r_119 hLC) 2 gX9_readOperand_X5_add rfl (by decide +kernel) ⟨rfl, rfl⟩ ⟨(by simp only [headSpec]; omega), (by simp only [headSpec]; omega)⟩ [0, 1, 2] [3, 4] rfl rfl rfl rfl (by decide) (ci := 4) rfl rfl 0 rfl rfl rfl (Nat.le_of_ble_eq_true rfl) ⟨Nat.le_of_ble_eq_true rfl, Nat.le_of_ble_eq_true rfl⟩ dX9_readOperand_51 (fun v_51 w_51 h_51 => ?_)
      obtain ⟨lz2_122, fs2_123, fw2_124, t_a, rfl, rfl, hLa, hta⟩ := h_51
      refine V_to (pc' := 54) (ls' := [(2, .int r_2), (0, .ref tp), (1, .int op_)]) (st' := []) (ws' := [(tp, .inr (8, [.ref tb, .int tl, .ref lw, .int x_117, .int fa])), (tb, .inl (Y 0, 120, .inl fb)), (lw, .inr (4, [.ref ws_, .ref ww, .ref wt, .ref wn, .ref wg, .ref wi, .int lz2_122])), (ws_, .inl (Y 0, 128, .inl fs2_123)), (ww, .inl (Y 0, 128, .inl fw2_124))]) ?_ rfl rfl rfl rfl
      have hc_97 : (97 : Int32).toInt = 97 := by decide
      have hta9 : t_a = t0 ++ [(97, nmC (c pos))] := by have h9 := hta (by omega); rw [show (97 : Int32).toInt = 97 from by decide, htr_120, nmC_PK hpe] at h9; exact h9
      refine V_goto X 170 (by decide) dX9_readOperand_54 ?_
      exact V_vret X hr dX9_readOperand_170 (Or.inl ⟨(pos + 1), [(97, nmC (c pos))], x_117, lz2_122, fs2_123, fw2_124, rfl, rfl, (by omega), (pOp_n hng hnm), ⟨Nat.le_refl _, by omega⟩, (hta9 ▸ hLa)⟩)
  · refine V_iload_n X 0 rfl dX9_readOperand_11 ?_
    refine V_bipush (v := (57 : Int32)) X (by decide) dX9_readOperand_12 ?_
    refine V_icmp_gt X rfl (show (57 : Int32).toInt = 57 from by decide) 24 dX9_readOperand_14 (by decide) (fun c_14 => ?_) (fun c_14 => ?_)
    · have hng : ¬ (48 ≤ c pos ∧ c pos ≤ 57) := by unfold PK at hpe; omega
      refine V_iload_n X 0 rfl dX9_readOperand_24 ?_
      refine V_callS (wr := [(lw, .inr (4, [.ref ws_, .ref ww, .ref wt, .ref wn, .ref wg, .ref wi, .int lz])), (ws_, .inl (Y 0, 128, .inl fs)), (ww, .inl (Y 0, 128, .inl fw)), (tp, .inr (8, [.ref tb, .int tl, .ref lw, .int pl, .int fa])), (tb, .inl (Y 0, 120, .inl fb))]) (st := []) X (c_X9_nameOf l D Y r_2) 1 gX9_readOperand_X9_nameOf rfl (by decide +kernel) ⟨rfl, rfl⟩ ⟨(by simp only [headSpec]; omega), (by simp only [headSpec]; omega)⟩ [] [0, 1, 2, 3, 4] rfl rfl rfl rfl (by decide) rfl rfl (Nat.le_of_ble_eq_true rfl) ⟨Nat.le_of_ble_eq_true rfl, Nat.le_of_ble_eq_true rfl⟩ dX9_readOperand_25 (fun v_25 w_25 h_25 => ?_)
      obtain ⟨r_129, rfl, rfl, htr_130⟩ := h_25
      refine V_to (pc' := 28) (ls' := [(2, .int r_2), (0, .ref tp), (1, .int op_)]) (st' := [.int r_129]) (ws' := [(lw, .inr (4, [.ref ws_, .ref ww, .ref wt, .ref wn, .ref wg, .ref wi, .int lz])), (ws_, .inl (Y 0, 128, .inl fs)), (ww, .inl (Y 0, 128, .inl fw)), (tp, .inr (8, [.ref tb, .int tl, .ref lw, .int pl, .int fa])), (tb, .inl (Y 0, 120, .inl fb))]) ?_ rfl rfl rfl rfl
      refine V_if_lt X htr_130 57 dX9_readOperand_28 (by decide) (fun c_28 => ?_) (fun c_28 => ?_)
      · have hnn : nmC (c pos) < 0 := by rw [← nmC_PK hpe]; omega
        refine V_iload_n X 0 rfl dX9_readOperand_57 ?_
        refine V_bipush (v := (40 : Int32)) X (by decide) dX9_readOperand_58 ?_
        refine V_icmp_eq X rfl (show (40 : Int32).toInt = 40 from by decide) 75 dX9_readOperand_60 (by decide) (fun c_60 => ?_) (fun c_60 => ?_)
        · refine V_iload_n X 2 rfl dX9_readOperand_75 ?_
          refine V_bipush (v := (6 : Int32)) X (by decide) dX9_readOperand_76 ?_
          refine V_icmp_ge X top_ (show (6 : Int32).toInt = 6 from by decide) 165 dX9_readOperand_78 (by decide) (fun c_78 => False.elim (by omega)) (fun c_78 => ?_)
          have hcr : c pos = r_2.toInt := by unfold PK at hpe; omega
          have hqlt := CHR_lt hCH (show c pos ≠ -1 by omega)
          refine V_aload_n X 1 rfl dX9_readOperand_81 ?_
          refine V_dup X rfl dX9_readOperand_82 ?_
          refine V_get (C := RX9) (T := TX9) (N := 5) (ci := 8) (v := .int pl) X in_X9_readOperand_X9 3 rfl rfl 3 (by decide) (List.mem_of_getElem? (i := 1) rfl) rfl rfl dX9_readOperand_83 ?_
          refine V_iconst (v := (1 : Int32)) X (by decide) dX9_readOperand_86 ?_
          refine V_iaddZ X tpl (show (1 : Int32).toInt = 1 from by decide) (by omega) (by omega) dX9_readOperand_87 (fun x_131 ex_131 tx_131 => ?_)
          have tx_131 : x_131.toInt = (((pos + 1) : Nat) : Int) := by omega
          refine V_put (C := RX9) (T := TX9) (N := 5) (ci := 8) (v := .int x_131) (ty := tyX9 3) (ws' := [(lw, .inr (4, [.ref ws_, .ref ww, .ref wt, .ref wn, .ref wg, .ref wi, .int lz])), (ws_, .inl (Y 0, 128, .inl fs)), (ww, .inl (Y 0, 128, .inl fw)), (tp, .inr (8, [.ref tb, .int tl, .ref lw, .int x_131, .int fa])), (tb, .inl (Y 0, 120, .inl fb))]) X in_X9_readOperand_X9 3 rfl rfl 3 (by decide) (List.mem_of_getElem? (i := 1) rfl) rfl tyX9 tyX9_ok nmX9 rfl (tyX9_ok 3 (by decide)) rfl rfl (Nat.le_of_ble_eq_true rfl) rfl dX9_readOperand_88 ?_
          refine V_iload_n X 0 rfl dX9_readOperand_91 ?_
          refine V_bipush (v := (40 : Int32)) X (by decide) dX9_readOperand_92 ?_
          refine V_icmp_ne X rfl (show (40 : Int32).toInt = 40 from by decide) 135 dX9_readOperand_94 (by decide) (fun c_94 => False.elim (by omega)) (fun c_94 => ?_)
          refine V_aload_n X 1 rfl dX9_readOperand_97 ?_
          refine V_iconst (v := (0 : Int32)) X (by decide) dX9_readOperand_98 ?_
          refine V_iload_n X 2 rfl dX9_readOperand_99 ?_
          refine V_iconst (v := (1 : Int32)) X (by decide) dX9_readOperand_100 ?_
          refine V_iaddZ X top_ (show (1 : Int32).toInt = 1 from by decide) (by omega) (by omega) dX9_readOperand_101 (fun x_132 ex_132 tx_132 => ?_)
          have tx_132 : x_132.toInt = (((opn + 1) : Nat) : Int) := by omega
          refine V_callV (C := RX9) (wr := []) (st := []) X (ihT l D Y tp tb lw tl x_131 fa (pos + 1) L c ws_ ww wt wn wg wi lz fs fw t0 fb (0 : Int32) 0 x_132 (opn + 1) ttl hL tx_131 (by omega) hCH hLC hfa (by omega) tx_132 (by omega) (by decide) (by decide)) 2 gX9_readOperand_X9_readTerms rfl (by decide +kernel) ⟨rfl, rfl⟩ ⟨(by simp only [headSpec]; omega), (by simp only [headSpec]; omega)⟩ [3, 4, 0, 1, 2] [] rfl rfl rfl rfl (by decide) (ci := 8) rfl rfl 0 rfl rfl rfl (Nat.le_of_ble_eq_true rfl) ⟨Nat.le_of_ble_eq_true rfl, Nat.le_of_ble_eq_true rfl⟩ dX9_readOperand_102 (fun v_102 w_102 h_102 => ?_)
          rcases h_102 with ⟨q_g, ts_g, pl2_136, lz2_137, fs2_138, fw2_139, rfl, rfl, tplg, hRg, hqbg, hLg⟩ | ⟨q_g, t1_g, pl2_146, fa2_147, lz2_148, fs2_149, fw2_150, rfl, rfl, tplg, hRg, hqLg, hDg, hLg⟩
          · refine V_to (pc' := 105) (ls' := [(2, .int r_2), (0, .ref tp), (1, .int op_)]) (st' := []) (ws' := [(tp, .inr (8, [.ref tb, .int tl, .ref lw, .int pl2_136, .int fa])), (tb, .inl (Y 0, 120, .inl fb)), (lw, .inr (4, [.ref ws_, .ref ww, .ref wt, .ref wn, .ref wg, .ref wi, .int lz2_137])), (ws_, .inl (Y 0, 128, .inl fs2_138)), (ww, .inl (Y 0, 128, .inl fw2_139))]) ?_ rfl rfl rfl rfl
            refine V_aload_n X 1 rfl dX9_readOperand_105 ?_
            refine V_callV (C := RX9) (wr := [(lw, .inr (4, [.ref ws_, .ref ww, .ref wt, .ref wn, .ref wg, .ref wi, .int lz2_137])), (ws_, .inl (Y 0, 128, .inl fs2_138)), (ww, .inl (Y 0, 128, .inl fw2_139))]) (st := []) X (c_X9_peek l D Y tp tb lw tl pl2_136 fa q_g L c fb ttl hL tplg (by omega) hCH) 0 gX9_readOperand_X9_peek rfl (by decide +kernel) ⟨rfl, rfl⟩ ⟨(by simp only [headSpec]; omega), (by simp only [headSpec]; omega)⟩ [0, 1] [2, 3, 4] rfl rfl rfl rfl (by decide) (ci := 8) rfl rfl 0 rfl rfl rfl (Nat.le_of_ble_eq_true rfl) ⟨Nat.le_of_ble_eq_true rfl, Nat.le_of_ble_eq_true rfl⟩ dX9_readOperand_106 (fun v_106 w_106 h_106 => ?_)
            obtain ⟨r_157, rfl, rfl, hhpk_158⟩ := h_106
            refine V_to (pc' := 109) (ls' := [(2, .int r_2), (0, .ref tp), (1, .int op_)]) (st' := [.int r_157]) (ws' := [(lw, .inr (4, [.ref ws_, .ref ww, .ref wt, .ref wn, .ref wg, .ref wi, .int lz2_137])), (ws_, .inl (Y 0, 128, .inl fs2_138)), (ww, .inl (Y 0, 128, .inl fw2_139)), (tp, .inr (8, [.ref tb, .int tl, .ref lw, .int pl2_136, .int fa])), (tb, .inl (Y 0, 120, .inl fb))]) ?_ rfl rfl rfl rfl
            refine V_bipush (v := (41 : Int32)) X (by decide) dX9_readOperand_109 ?_
            have hpq := PK_0 hhpk_158 hfa
            refine V_icmp_ne X rfl (show (41 : Int32).toInt = 41 from by decide) 127 dX9_readOperand_111 (by decide) (fun c_111 => ?_) (fun c_111 => ?_)
            · refine V_aload_n X 1 rfl dX9_readOperand_127 ?_
              refine V_iconst (v := (1 : Int32)) X (by decide) dX9_readOperand_128 ?_
              refine V_put (C := RX9) (T := TX9) (N := 5) (ci := 8) (v := .int (1 : Int32)) (ty := tyX9 4) (ws' := [(lw, .inr (4, [.ref ws_, .ref ww, .ref wt, .ref wn, .ref wg, .ref wi, .int lz2_137])), (ws_, .inl (Y 0, 128, .inl fs2_138)), (ww, .inl (Y 0, 128, .inl fw2_139)), (tp, .inr (8, [.ref tb, .int tl, .ref lw, .int pl2_136, .int (1 : Int32)])), (tb, .inl (Y 0, 120, .inl fb))]) X in_X9_readOperand_X9 3 rfl rfl 4 (by decide) (List.mem_of_getElem? (i := 3) rfl) rfl tyX9 tyX9_ok nmX9 rfl (tyX9_ok 4 (by decide)) rfl rfl (Nat.le_of_ble_eq_true rfl) rfl dX9_readOperand_129 ?_
              refine V_goto X 170 (by decide) dX9_readOperand_132 ?_
              refine V_ws (ws' := [(tp, .inr (8, [.ref tb, .int tl, .ref lw, .int pl2_136, .int (1 : Int32)])), (tb, .inl (Y 0, 120, .inl fb)), (lw, .inr (4, [.ref ws_, .ref ww, .ref wt, .ref wn, .ref wg, .ref wi, .int lz2_137])), (ws_, .inl (Y 0, 128, .inl fs2_138)), (ww, .inl (Y 0, 128, .inl fw2_139))]) [3, 4, 0, 1, 2] rfl rfl rfl ?_
              exact V_vret X hr dX9_readOperand_170 (Or.inr (⟨q_g, (t0 ++ ts_g), pl2_136, (1 : Int32), lz2_137, fs2_138, fw2_139, rfl, rfl, (by omega), ((pOp_p (by omega)).trans (pPa_x hRg (by unfold PK at hpq; omega))), (by omega), (Or.inl (by decide)), hLg⟩))
            · have h41 : c q_g = 41 := by unfold PK at hpq; omega
              have hqlt2 := CHR_lt hCH (show c q_g ≠ -1 by omega)
              refine V_aload_n X 1 rfl dX9_readOperand_114 ?_
              refine V_dup X rfl dX9_readOperand_115 ?_
              refine V_get (C := RX9) (T := TX9) (N := 5) (ci := 8) (v := .int pl2_136) X in_X9_readOperand_X9 3 rfl rfl 3 (by decide) (List.mem_of_getElem? (i := 1) rfl) rfl rfl dX9_readOperand_116 ?_
              refine V_iconst (v := (1 : Int32)) X (by decide) dX9_readOperand_119 ?_
              refine V_iaddZ X tplg (show (1 : Int32).toInt = 1 from by decide) (by omega) (by omega) dX9_readOperand_120 (fun x_159 ex_159 tx_159 => ?_)
              have tx_159 : x_159.toInt = (((q_g + 1) : Nat) : Int) := by omega
              refine V_put (C := RX9) (T := TX9) (N := 5) (ci := 8) (v := .int x_159) (ty := tyX9 3) (ws' := [(lw, .inr (4, [.ref ws_, .ref ww, .ref wt, .ref wn, .ref wg, .ref wi, .int lz2_137])), (ws_, .inl (Y 0, 128, .inl fs2_138)), (ww, .inl (Y 0, 128, .inl fw2_139)), (tp, .inr (8, [.ref tb, .int tl, .ref lw, .int x_159, .int fa])), (tb, .inl (Y 0, 120, .inl fb))]) X in_X9_readOperand_X9 3 rfl rfl 3 (by decide) (List.mem_of_getElem? (i := 1) rfl) rfl tyX9 tyX9_ok nmX9 rfl (tyX9_ok 3 (by decide)) rfl rfl (Nat.le_of_ble_eq_true rfl) rfl dX9_readOperand_121 ?_
              refine V_goto X 170 (by decide) dX9_readOperand_124 ?_
              refine V_ws (ws' := [(tp, .inr (8, [.ref tb, .int tl, .ref lw, .int x_159, .int fa])), (tb, .inl (Y 0, 120, .inl fb)), (lw, .inr (4, [.ref ws_, .ref ww, .ref wt, .ref wn, .ref wg, .ref wi, .int lz2_137])), (ws_, .inl (Y 0, 128, .inl fs2_138)), (ww, .inl (Y 0, 128, .inl fw2_139))]) [3, 4, 0, 1, 2] rfl rfl rfl ?_
              exact V_vret X hr dX9_readOperand_170 (Or.inl ⟨(q_g + 1), ts_g, x_159, lz2_137, fs2_138, fw2_139, rfl, rfl, (by omega), ((pOp_p (by omega)).trans (pPa_s hRg h41)), ⟨by omega, by omega⟩, hLg⟩)
          · refine V_to (pc' := 105) (ls' := [(2, .int r_2), (0, .ref tp), (1, .int op_)]) (st' := []) (ws' := [(tp, .inr (8, [.ref tb, .int tl, .ref lw, .int pl2_146, .int fa2_147])), (tb, .inl (Y 0, 120, .inl fb)), (lw, .inr (4, [.ref ws_, .ref ww, .ref wt, .ref wn, .ref wg, .ref wi, .int lz2_148])), (ws_, .inl (Y 0, 128, .inl fs2_149)), (ww, .inl (Y 0, 128, .inl fw2_150))]) ?_ rfl rfl rfl rfl
            refine V_aload_n X 1 rfl dX9_readOperand_105 ?_
            refine V_callV (C := RX9) (wr := [(lw, .inr (4, [.ref ws_, .ref ww, .ref wt, .ref wn, .ref wg, .ref wi, .int lz2_148])), (ws_, .inl (Y 0, 128, .inl fs2_149)), (ww, .inl (Y 0, 128, .inl fw2_150))]) (st := []) X (c_X9_peek l D Y tp tb lw tl pl2_146 fa2_147 q_g L c fb ttl hL tplg hqLg hCH) 0 gX9_readOperand_X9_peek rfl (by decide +kernel) ⟨rfl, rfl⟩ ⟨(by simp only [headSpec]; omega), (by simp only [headSpec]; omega)⟩ [0, 1] [2, 3, 4] rfl rfl rfl rfl (by decide) (ci := 8) rfl rfl 0 rfl rfl rfl (Nat.le_of_ble_eq_true rfl) ⟨Nat.le_of_ble_eq_true rfl, Nat.le_of_ble_eq_true rfl⟩ dX9_readOperand_106 (fun v_106 w_106 h_106 => ?_)
            obtain ⟨r_161, rfl, rfl, hhpk_162⟩ := h_106
            refine V_to (pc' := 109) (ls' := [(2, .int r_2), (0, .ref tp), (1, .int op_)]) (st' := [.int r_161]) (ws' := [(lw, .inr (4, [.ref ws_, .ref ww, .ref wt, .ref wn, .ref wg, .ref wi, .int lz2_148])), (ws_, .inl (Y 0, 128, .inl fs2_149)), (ww, .inl (Y 0, 128, .inl fw2_150)), (tp, .inr (8, [.ref tb, .int tl, .ref lw, .int pl2_146, .int fa2_147])), (tb, .inl (Y 0, 120, .inl fb))]) ?_ rfl rfl rfl rfl
            refine V_bipush (v := (41 : Int32)) X (by decide) dX9_readOperand_109 ?_
            have hpd := PK_dead hhpk_162 hDg
            refine V_icmp_ne X rfl (show (41 : Int32).toInt = 41 from by decide) 127 dX9_readOperand_111 (by decide) (fun c_111 => ?_) (fun c_111 => False.elim (by omega))
            refine V_aload_n X 1 rfl dX9_readOperand_127 ?_
            refine V_iconst (v := (1 : Int32)) X (by decide) dX9_readOperand_128 ?_
            refine V_put (C := RX9) (T := TX9) (N := 5) (ci := 8) (v := .int (1 : Int32)) (ty := tyX9 4) (ws' := [(lw, .inr (4, [.ref ws_, .ref ww, .ref wt, .ref wn, .ref wg, .ref wi, .int lz2_148])), (ws_, .inl (Y 0, 128, .inl fs2_149)), (ww, .inl (Y 0, 128, .inl fw2_150)), (tp, .inr (8, [.ref tb, .int tl, .ref lw, .int pl2_146, .int (1 : Int32)])), (tb, .inl (Y 0, 120, .inl fb))]) X in_X9_readOperand_X9 3 rfl rfl 4 (by decide) (List.mem_of_getElem? (i := 3) rfl) rfl tyX9 tyX9_ok nmX9 rfl (tyX9_ok 4 (by decide)) rfl rfl (Nat.le_of_ble_eq_true rfl) rfl dX9_readOperand_129 ?_
            refine V_goto X 170 (by decide) dX9_readOperand_132 ?_
            refine V_ws (ws' := [(tp, .inr (8, [.ref tb, .int tl, .ref lw, .int pl2_146, .int (1 : Int32)])), (tb, .inl (Y 0, 120, .inl fb)), (lw, .inr (4, [.ref ws_, .ref ww, .ref wt, .ref wn, .ref wg, .ref wi, .int lz2_148])), (ws_, .inl (Y 0, 128, .inl fs2_149)), (ww, .inl (Y 0, 128, .inl fw2_150))]) [3, 4, 0, 1, 2] rfl rfl rfl ?_
            exact V_vret X hr dX9_readOperand_170 (Or.inr (⟨q_g, t1_g, pl2_146, (1 : Int32), lz2_148, fs2_149, fw2_150, rfl, rfl, (by omega), ((pOp_p (by omega)).trans (pBd_n hRg)), (by omega), (Or.inl (by decide)), hLg⟩))
        · refine V_iload_n X 0 rfl dX9_readOperand_63 ?_
          refine V_bipush (v := (33 : Int32)) X (by decide) dX9_readOperand_64 ?_
          refine V_icmp_eq X rfl (show (33 : Int32).toInt = 33 from by decide) 75 dX9_readOperand_66 (by decide) (fun c_66 => ?_) (fun c_66 => ?_)
          · refine V_iload_n X 2 rfl dX9_readOperand_75 ?_
            refine V_bipush (v := (6 : Int32)) X (by decide) dX9_readOperand_76 ?_
            refine V_icmp_ge X top_ (show (6 : Int32).toInt = 6 from by decide) 165 dX9_readOperand_78 (by decide) (fun c_78 => False.elim (by omega)) (fun c_78 => ?_)
            have hcr : c pos = r_2.toInt := by unfold PK at hpe; omega
            have hqlt := CHR_lt hCH (show c pos ≠ -1 by omega)
            refine V_aload_n X 1 rfl dX9_readOperand_81 ?_
            refine V_dup X rfl dX9_readOperand_82 ?_
            refine V_get (C := RX9) (T := TX9) (N := 5) (ci := 8) (v := .int pl) X in_X9_readOperand_X9 3 rfl rfl 3 (by decide) (List.mem_of_getElem? (i := 1) rfl) rfl rfl dX9_readOperand_83 ?_
            refine V_iconst (v := (1 : Int32)) X (by decide) dX9_readOperand_86 ?_
            refine V_iaddZ X tpl (show (1 : Int32).toInt = 1 from by decide) (by omega) (by omega) dX9_readOperand_87 (fun x_163 ex_163 tx_163 => ?_)
            have tx_163 : x_163.toInt = (((pos + 1) : Nat) : Int) := by omega
            refine V_put (C := RX9) (T := TX9) (N := 5) (ci := 8) (v := .int x_163) (ty := tyX9 3) (ws' := [(lw, .inr (4, [.ref ws_, .ref ww, .ref wt, .ref wn, .ref wg, .ref wi, .int lz])), (ws_, .inl (Y 0, 128, .inl fs)), (ww, .inl (Y 0, 128, .inl fw)), (tp, .inr (8, [.ref tb, .int tl, .ref lw, .int x_163, .int fa])), (tb, .inl (Y 0, 120, .inl fb))]) X in_X9_readOperand_X9 3 rfl rfl 3 (by decide) (List.mem_of_getElem? (i := 1) rfl) rfl tyX9 tyX9_ok nmX9 rfl (tyX9_ok 3 (by decide)) rfl rfl (Nat.le_of_ble_eq_true rfl) rfl dX9_readOperand_88 ?_
            refine V_iload_n X 0 rfl dX9_readOperand_91 ?_
            refine V_bipush (v := (40 : Int32)) X (by decide) dX9_readOperand_92 ?_
            refine V_icmp_ne X rfl (show (40 : Int32).toInt = 40 from by decide) 135 dX9_readOperand_94 (by decide) (fun c_94 => ?_) (fun c_94 => False.elim (by omega))
            refine V_aload_n X 1 rfl dX9_readOperand_135 ?_
            refine V_iload_n X 2 rfl dX9_readOperand_136 ?_
            refine V_iconst (v := (1 : Int32)) X (by decide) dX9_readOperand_137 ?_
            refine V_iaddZ X top_ (show (1 : Int32).toInt = 1 from by decide) (by omega) (by omega) dX9_readOperand_138 (fun x_164 ex_164 tx_164 => ?_)
            have tx_164 : x_164.toInt = (((opn + 1) : Nat) : Int) := by omega
            refine V_callV (C := RX9) (wr := []) (st := []) X (ihO l D Y tp tb lw tl x_163 fa (pos + 1) L c ws_ ww wt wn wg wi lz fs fw t0 fb x_164 (opn + 1) ttl hL tx_163 (by omega) hCH hLC hfa (by omega) tx_164 (by omega)) 1 gX9_readOperand_X9_readOperand rfl (by decide +kernel) ⟨rfl, rfl⟩ ⟨(by simp only [headSpec]; omega), (by simp only [headSpec]; omega)⟩ [3, 4, 0, 1, 2] [] rfl rfl rfl rfl (by decide) (ci := 8) rfl rfl 0 rfl rfl rfl (Nat.le_of_ble_eq_true rfl) ⟨Nat.le_of_ble_eq_true rfl, Nat.le_of_ble_eq_true rfl⟩ dX9_readOperand_139 (fun v_139 w_139 h_139 => ?_)
            rcases h_139 with ⟨q_h, ts_h, pl2_168, lz2_169, fs2_170, fw2_171, rfl, rfl, tplh, hRh, hqbh, hLh⟩ | ⟨q_h, t1_h, pl2_178, fa2_179, lz2_180, fs2_181, fw2_182, rfl, rfl, tplh, hRh, hqLh, hDh, hLh⟩
            · refine V_to (pc' := 142) (ls' := [(2, .int r_2), (0, .ref tp), (1, .int op_)]) (st' := []) (ws' := [(tp, .inr (8, [.ref tb, .int tl, .ref lw, .int pl2_168, .int fa])), (tb, .inl (Y 0, 120, .inl fb)), (lw, .inr (4, [.ref ws_, .ref ww, .ref wt, .ref wn, .ref wg, .ref wi, .int lz2_169])), (ws_, .inl (Y 0, 128, .inl fs2_170)), (ww, .inl (Y 0, 128, .inl fw2_171))]) ?_ rfl rfl rfl rfl
              refine V_aload_n X 1 rfl dX9_readOperand_142 ?_
              refine V_get (C := RX9) (T := TX9) (N := 5) (ci := 8) (v := .ref lw) X in_X9_readOperand_X9 0 rfl rfl 2 (by decide) (List.mem_of_getElem? (i := 2) rfl) rfl rfl dX9_readOperand_143 ?_
              refine V_iload_n X 0 rfl dX9_readOperand_146 ?_
              refine V_bipush (v := (45 : Int32)) X (by decide) dX9_readOperand_147 ?_
              refine V_icmp_ne X rfl (show (45 : Int32).toInt = 45 from by decide) 157 dX9_readOperand_149 (by decide) (fun c_149 => ?_) (fun c_149 => False.elim (by omega))
              refine V_iload_n X 0 rfl dX9_readOperand_157 ?_
              refine V_iconst (v := (0 : Int32)) X (by decide) dX9_readOperand_158 ?_
              refine V_callV (C := RX5) (wr := [(tp, .inr (8, [.ref tb, .int tl, .ref lw, .int pl2_168, .int fa])), (tb, .inl (Y 0, 120, .inl fb))]) (st := []) X (c_X5_addT l D Y lw ws_ ww wt wn wg wi lz2_169 fs2_170 fw2_171 (t0 + + ts_h) r_2 (0 : Int32) hLh) 2 gX9_readOperand_X5_add rfl (by decide +kernel) ⟨rfl, rfl⟩ ⟨(by simp only [headSpec]; omega), (by simp only [headSpec]; omega)⟩ [2, 3, 4] [0, 1] rfl rfl rfl rfl (by decide) (ci := 4) rfl rfl 0 rfl rfl rfl (Nat.le_of_ble_eq_true rfl) ⟨Nat.le_of_ble_eq_true rfl, Nat.le_of_ble_eq_true rfl⟩ dX9_readOperand_159 (fun v_159 w_159 h_159 => ?_)
              obtain ⟨lz2_189, fs2_190, fw2_191, t_b, rfl, rfl, hLb, htb⟩ := h_159
              refine V_to (pc' := 162) (ls' := [(2, .int r_2), (0, .ref tp), (1, .int op_)]) (st' := []) (ws' := [(tp, .inr (8, [.ref tb, .int tl, .ref lw, .int pl2_168, .int fa])), (tb, .inl (Y 0, 120, .inl fb)), (lw, .inr (4, [.ref ws_, .ref ww, .ref wt, .ref wn, .ref wg, .ref wi, .int lz2_189])), (ws_, .inl (Y 0, 128, .inl fs2_190)), (ww, .inl (Y 0, 128, .inl fw2_191))]) ?_ rfl rfl rfl rfl
              have hc_0 : (0 : Int32).toInt = 0 := by decide
              have htb9 : t_b = t0 ++ (ts_h ++ [((if c pos = 45 then 126 else 33), 0)]) := by have h9 := htb (by rw [List.length_append]; omega); rw [show (0 : Int32).toInt = 0 from by decide, show r_2.toInt = (if c pos = 45 then 126 else 33) from by rw [if_neg (by omega)]; omega] at h9; rw [h9, LC_app]
              refine V_goto X 170 (by decide) dX9_readOperand_162 ?_
              exact V_vret X hr dX9_readOperand_170 (Or.inl ⟨q_h, (ts_h ++ [((if c pos = 45 then 126 else 33), 0)]), pl2_168, lz2_189, fs2_190, fw2_191, rfl, rfl, (by omega), ((pOp_u (by omega)).trans (pNe_s hRh)), ⟨by rw [List.length_append]; show pos + (ts_h.length + 1) ≤ q_h; omega, hqbh.2⟩, (htb9 ▸ hLb)⟩)
            · refine V_to (pc' := 142) (ls' := [(2, .int r_2), (0, .ref tp), (1, .int op_)]) (st' := []) (ws' := [(tp, .inr (8, [.ref tb, .int tl, .ref lw, .int pl2_178, .int fa2_179])), (tb, .inl (Y 0, 120, .inl fb)), (lw, .inr (4, [.ref ws_, .ref ww, .ref wt, .ref wn, .ref wg, .ref wi, .int lz2_180])), (ws_, .inl (Y 0, 128, .inl fs2_181)), (ww, .inl (Y 0, 128, .inl fw2_182))]) ?_ rfl rfl rfl rfl
              refine V_aload_n X 1 rfl dX9_readOperand_142 ?_
              refine V_get (C := RX9) (T := TX9) (N := 5) (ci := 8) (v := .ref lw) X in_X9_readOperand_X9 0 rfl rfl 2 (by decide) (List.mem_of_getElem? (i := 2) rfl) rfl rfl dX9_readOperand_143 ?_
              refine V_iload_n X 0 rfl dX9_readOperand_146 ?_
              refine V_bipush (v := (45 : Int32)) X (by decide) dX9_readOperand_147 ?_
              refine V_icmp_ne X rfl (show (45 : Int32).toInt = 45 from by decide) 157 dX9_readOperand_149 (by decide) (fun c_149 => ?_) (fun c_149 => False.elim (by omega))
              refine V_iload_n X 0 rfl dX9_readOperand_157 ?_
              refine V_iconst (v := (0 : Int32)) X (by decide) dX9_readOperand_158 ?_
              refine V_callV (C := RX5) (wr := [(tp, .inr (8, [.ref tb, .int tl, .ref lw, .int pl2_178, .int fa2_179])), (tb, .inl (Y 0, 120, .inl fb))]) (st := []) X (c_X5_addT l D Y lw ws_ ww wt wn wg wi lz2_180 fs2_181 fw2_182 t1_h r_2 (0 : Int32) hLh) 2 gX9_readOperand_X5_add rfl (by decide +kernel) ⟨rfl, rfl⟩ ⟨(by simp only [headSpec]; omega), (by simp only [headSpec]; omega)⟩ [2, 3, 4] [0, 1] rfl rfl rfl rfl (by decide) (ci := 4) rfl rfl 0 rfl rfl rfl (Nat.le_of_ble_eq_true rfl) ⟨Nat.le_of_ble_eq_true rfl, Nat.le_of_ble_eq_true rfl⟩ dX9_readOperand_159 (fun v_159 w_159 h_159 => ?_)
              obtain ⟨lz2_196, fs2_197, fw2_198, t_b, rfl, rfl, hLb, htb⟩ := h_159
              refine V_to (pc' := 162) (ls' := [(2, .int r_2), (0, .ref tp), (1, .int op_)]) (st' := []) (ws' := [(tp, .inr (8, [.ref tb, .int tl, .ref lw, .int pl2_178, .int fa2_179])), (tb, .inl (Y 0, 120, .inl fb)), (lw, .inr (4, [.ref ws_, .ref ww, .ref wt, .ref wn, .ref wg, .ref wi, .int lz2_196])), (ws_, .inl (Y 0, 128, .inl fs2_197)), (ww, .inl (Y 0, 128, .inl fw2_198))]) ?_ rfl rfl rfl rfl
              have hc_0 : (0 : Int32).toInt = 0 := by decide
              refine V_goto X 170 (by decide) dX9_readOperand_162 ?_
              exact V_vret X hr dX9_readOperand_170 (Or.inr (⟨q_h, t_b, pl2_178, fa2_179, lz2_196, fs2_197, fw2_198, rfl, rfl, (by omega), ((pOp_u (by omega)).trans (pBd_n hRh)), (by omega), hDh, hLb⟩))
          · refine V_iload_n X 0 rfl dX9_readOperand_69 ?_
            refine V_bipush (v := (45 : Int32)) X (by decide) dX9_readOperand_70 ?_
            refine V_icmp_ne X rfl (show (45 : Int32).toInt = 45 from by decide) 165 dX9_readOperand_72 (by decide) (fun c_72 => ?_) (fun c_72 => ?_)
            · refine V_aload_n X 1 rfl dX9_readOperand_165 ?_
              refine V_iconst (v := (1 : Int32)) X (by decide) dX9_readOperand_166 ?_
              refine V_put (C := RX9) (T := TX9) (N := 5) (ci := 8) (v := .int (1 : Int32)) (ty := tyX9 4) (ws' := [(lw, .inr (4, [.ref ws_, .ref ww, .ref wt, .ref wn, .ref wg, .ref wi, .int lz])), (ws_, .inl (Y 0, 128, .inl fs)), (ww, .inl (Y 0, 128, .inl fw)), (tp, .inr (8, [.ref tb, .int tl, .ref lw, .int pl, .int (1 : Int32)])), (tb, .inl (Y 0, 120, .inl fb))]) X in_X9_readOperand_X9 3 rfl rfl 4 (by decide) (List.mem_of_getElem? (i := 3) rfl) rfl tyX9 tyX9_ok nmX9 rfl (tyX9_ok 4 (by decide)) rfl rfl (Nat.le_of_ble_eq_true rfl) rfl dX9_readOperand_167 ?_
              refine V_ws (ws' := [(tp, .inr (8, [.ref tb, .int tl, .ref lw, .int pl, .int (1 : Int32)])), (tb, .inl (Y 0, 120, .inl fb)), (lw, .inr (4, [.ref ws_, .ref ww, .ref wt, .ref wn, .ref wg, .ref wi, .int lz])), (ws_, .inl (Y 0, 128, .inl fs)), (ww, .inl (Y 0, 128, .inl fw))]) [3, 4, 0, 1, 2] rfl rfl rfl ?_
              exact V_vret X hr dX9_readOperand_170 (Or.inr (⟨pos, t0, pl, (1 : Int32), lz, fs, fw, rfl, rfl, (by omega), (pOp_x hng hnn (Or.inr (by unfold PK at hpe; omega))), (by omega), (Or.inl (by decide)), hLC⟩))
            · refine V_iload_n X 2 rfl dX9_readOperand_75 ?_
              refine V_bipush (v := (6 : Int32)) X (by decide) dX9_readOperand_76 ?_
              refine V_icmp_ge X top_ (show (6 : Int32).toInt = 6 from by decide) 165 dX9_readOperand_78 (by decide) (fun c_78 => False.elim (by omega)) (fun c_78 => ?_)
              have hcr : c pos = r_2.toInt := by unfold PK at hpe; omega
              have hqlt := CHR_lt hCH (show c pos ≠ -1 by omega)
              refine V_aload_n X 1 rfl dX9_readOperand_81 ?_
              refine V_dup X rfl dX9_readOperand_82 ?_
              refine V_get (C := RX9) (T := TX9) (N := 5) (ci := 8) (v := .int pl) X in_X9_readOperand_X9 3 rfl rfl 3 (by decide) (List.mem_of_getElem? (i := 1) rfl) rfl rfl dX9_readOperand_83 ?_
              refine V_iconst (v := (1 : Int32)) X (by decide) dX9_readOperand_86 ?_
              refine V_iaddZ X tpl (show (1 : Int32).toInt = 1 from by decide) (by omega) (by omega) dX9_readOperand_87 (fun x_202 ex_202 tx_202 => ?_)
              have tx_202 : x_202.toInt = (((pos + 1) : Nat) : Int) := by omega
              refine V_put (C := RX9) (T := TX9) (N := 5) (ci := 8) (v := .int x_202) (ty := tyX9 3) (ws' := [(lw, .inr (4, [.ref ws_, .ref ww, .ref wt, .ref wn, .ref wg, .ref wi, .int lz])), (ws_, .inl (Y 0, 128, .inl fs)), (ww, .inl (Y 0, 128, .inl fw)), (tp, .inr (8, [.ref tb, .int tl, .ref lw, .int x_202, .int fa])), (tb, .inl (Y 0, 120, .inl fb))]) X in_X9_readOperand_X9 3 rfl rfl 3 (by decide) (List.mem_of_getElem? (i := 1) rfl) rfl tyX9 tyX9_ok nmX9 rfl (tyX9_ok 3 (by decide)) rfl rfl (Nat.le_of_ble_eq_true rfl) rfl dX9_readOperand_88 ?_
              refine V_iload_n X 0 rfl dX9_readOperand_91 ?_
              refine V_bipush (v := (40 : Int32)) X (by decide) dX9_readOperand_92 ?_
              refine V_icmp_ne X rfl (show (40 : Int32).toInt = 40 from by decide) 135 dX9_readOperand_94 (by decide) (fun c_94 => ?_) (fun c_94 => False.elim (by omega))
              refine V_aload_n X 1 rfl dX9_readOperand_135 ?_
              refine V_iload_n X 2 rfl dX9_readOperand_136 ?_
              refine V_iconst (v := (1 : Int32)) X (by decide) dX9_readOperand_137 ?_
              refine V_iaddZ X top_ (show (1 : Int32).toInt = 1 from by decide) (by omega) (by omega) dX9_readOperand_138 (fun x_203 ex_203 tx_203 => ?_)
              have tx_203 : x_203.toInt = (((opn + 1) : Nat) : Int) := by omega
              refine V_callV (C := RX9) (wr := []) (st := []) X (ihO l D Y tp tb lw tl x_202 fa (pos + 1) L c ws_ ww wt wn wg wi lz fs fw t0 fb x_203 (opn + 1) ttl hL tx_202 (by omega) hCH hLC hfa (by omega) tx_203 (by omega)) 1 gX9_readOperand_X9_readOperand rfl (by decide +kernel) ⟨rfl, rfl⟩ ⟨(by simp only [headSpec]; omega), (by simp only [headSpec]; omega)⟩ [3, 4, 0, 1, 2] [] rfl rfl rfl rfl (by decide) (ci := 8) rfl rfl 0 rfl rfl rfl (Nat.le_of_ble_eq_true rfl) ⟨Nat.le_of_ble_eq_true rfl, Nat.le_of_ble_eq_true rfl⟩ dX9_readOperand_139 (fun v_139 w_139 h_139 => ?_)
              rcases h_139 with ⟨q_h, ts_h, pl2_207, lz2_208, fs2_209, fw2_210, rfl, rfl, tplh, hRh, hqbh, hLh⟩ | ⟨q_h, t1_h, pl2_217, fa2_218, lz2_219, fs2_220, fw2_221, rfl, rfl, tplh, hRh, hqLh, hDh, hLh⟩
              · refine V_to (pc' := 142) (ls' := [(2, .int r_2), (0, .ref tp), (1, .int op_)]) (st' := []) (ws' := [(tp, .inr (8, [.ref tb, .int tl, .ref lw, .int pl2_207, .int fa])), (tb, .inl (Y 0, 120, .inl fb)), (lw, .inr (4, [.ref ws_, .ref ww, .ref wt, .ref wn, .ref wg, .ref wi, .int lz2_208])), (ws_, .inl (Y 0, 128, .inl fs2_209)), (ww, .inl (Y 0, 128, .inl fw2_210))]) ?_ rfl rfl rfl rfl
                refine V_aload_n X 1 rfl dX9_readOperand_142 ?_
                refine V_get (C := RX9) (T := TX9) (N := 5) (ci := 8) (v := .ref lw) X in_X9_readOperand_X9 0 rfl rfl 2 (by decide) (List.mem_of_getElem? (i := 2) rfl) rfl rfl dX9_readOperand_143 ?_
                refine V_iload_n X 0 rfl dX9_readOperand_146 ?_
                refine V_bipush (v := (45 : Int32)) X (by decide) dX9_readOperand_147 ?_
                refine V_icmp_ne X rfl (show (45 : Int32).toInt = 45 from by decide) 157 dX9_readOperand_149 (by decide) (fun c_149 => False.elim (by omega)) (fun c_149 => ?_)
                refine V_bipush (v := (126 : Int32)) X (by decide) dX9_readOperand_152 ?_
                refine V_goto X 158 (by decide) dX9_readOperand_154 ?_
                refine V_iconst (v := (0 : Int32)) X (by decide) dX9_readOperand_158 ?_
                refine V_callV (C := RX5) (wr := [(tp, .inr (8, [.ref tb, .int tl, .ref lw, .int pl2_207, .int fa])), (tb, .inl (Y 0, 120, .inl fb))]) (st := []) X (c_X5_addT l D Y lw ws_ ww wt wn wg wi lz2_208 fs2_209 fw2_210 (t0 + + ts_h) (126 : Int32) (0 : Int32) hLh) 2 gX9_readOperand_X5_add rfl (by decide +kernel) ⟨rfl, rfl⟩ ⟨(by simp only [headSpec]; omega), (by simp only [headSpec]; omega)⟩ [2, 3, 4] [0, 1] rfl rfl rfl rfl (by decide) (ci := 4) rfl rfl 0 rfl rfl rfl (Nat.le_of_ble_eq_true rfl) ⟨Nat.le_of_ble_eq_true rfl, Nat.le_of_ble_eq_true rfl⟩ dX9_readOperand_159 (fun v_159 w_159 h_159 => ?_)
                obtain ⟨lz2_228, fs2_229, fw2_230, t_b, rfl, rfl, hLb, htb⟩ := h_159
                refine V_to (pc' := 162) (ls' := [(2, .int r_2), (0, .ref tp), (1, .int op_)]) (st' := []) (ws' := [(tp, .inr (8, [.ref tb, .int tl, .ref lw, .int pl2_207, .int fa])), (tb, .inl (Y 0, 120, .inl fb)), (lw, .inr (4, [.ref ws_, .ref ww, .ref wt, .ref wn, .ref wg, .ref wi, .int lz2_228])), (ws_, .inl (Y 0, 128, .inl fs2_229)), (ww, .inl (Y 0, 128, .inl fw2_230))]) ?_ rfl rfl rfl rfl
                have hc_0 : (0 : Int32).toInt = 0 := by decide
                have hc_126 : (126 : Int32).toInt = 126 := by decide
                have htb9 : t_b = t0 ++ (ts_h ++ [((if c pos = 45 then 126 else 33), 0)]) := by have h9 := htb (by rw [List.length_append]; omega); rw [show (0 : Int32).toInt = 0 from by decide, show (126 : Int32).toInt = (if c pos = 45 then 126 else 33) from by rw [if_pos (by omega)]; decide] at h9; rw [h9, LC_app]
                refine V_goto X 170 (by decide) dX9_readOperand_162 ?_
                exact V_vret X hr dX9_readOperand_170 (Or.inl ⟨q_h, (ts_h ++ [((if c pos = 45 then 126 else 33), 0)]), pl2_207, lz2_228, fs2_229, fw2_230, rfl, rfl, (by omega), ((pOp_u (by omega)).trans (pNe_s hRh)), ⟨by rw [List.length_append]; show pos + (ts_h.length + 1) ≤ q_h; omega, hqbh.2⟩, (htb9 ▸ hLb)⟩)
              · refine V_to (pc' := 142) (ls' := [(2, .int r_2), (0, .ref tp), (1, .int op_)]) (st' := []) (ws' := [(tp, .inr (8, [.ref tb, .int tl, .ref lw, .int pl2_217, .int fa2_218])), (tb, .inl (Y 0, 120, .inl fb)), (lw, .inr (4, [.ref ws_, .ref ww, .ref wt, .ref wn, .ref wg, .ref wi, .int lz2_219])), (ws_, .inl (Y 0, 128, .inl fs2_220)), (ww, .inl (Y 0, 128, .inl fw2_221))]) ?_ rfl rfl rfl rfl
                refine V_aload_n X 1 rfl dX9_readOperand_142 ?_
                refine V_get (C := RX9) (T := TX9) (N := 5) (ci := 8) (v := .ref lw) X in_X9_readOperand_X9 0 rfl rfl 2 (by decide) (List.mem_of_getElem? (i := 2) rfl) rfl rfl dX9_readOperand_143 ?_
                refine V_iload_n X 0 rfl dX9_readOperand_146 ?_
                refine V_bipush (v := (45 : Int32)) X (by decide) dX9_readOperand_147 ?_
                refine V_icmp_ne X rfl (show (45 : Int32).toInt = 45 from by decide) 157 dX9_readOperand_149 (by decide) (fun c_149 => False.elim (by omega)) (fun c_149 => ?_)
                refine V_bipush (v := (126 : Int32)) X (by decide) dX9_readOperand_152 ?_
                refine V_goto X 158 (by decide) dX9_readOperand_154 ?_
                refine V_iconst (v := (0 : Int32)) X (by decide) dX9_readOperand_158 ?_
                refine V_callV (C := RX5) (wr := [(tp, .inr (8, [.ref tb, .int tl, .ref lw, .int pl2_217, .int fa2_218])), (tb, .inl (Y 0, 120, .inl fb))]) (st := []) X (c_X5_addT l D Y lw ws_ ww wt wn wg wi lz2_219 fs2_220 fw2_221 t1_h (126 : Int32) (0 : Int32) hLh) 2 gX9_readOperand_X5_add rfl (by decide +kernel) ⟨rfl, rfl⟩ ⟨(by simp only [headSpec]; omega), (by simp only [headSpec]; omega)⟩ [2, 3, 4] [0, 1] rfl rfl rfl rfl (by decide) (ci := 4) rfl rfl 0 rfl rfl rfl (Nat.le_of_ble_eq_true rfl) ⟨Nat.le_of_ble_eq_true rfl, Nat.le_of_ble_eq_true rfl⟩ dX9_readOperand_159 (fun v_159 w_159 h_159 => ?_)
                obtain ⟨lz2_235, fs2_236, fw2_237, t_b, rfl, rfl, hLb, htb⟩ := h_159
                refine V_to (pc' := 162) (ls' := [(2, .int r_2), (0, .ref tp), (1, .int op_)]) (st' := []) (ws' := [(tp, .inr (8, [.ref tb, .int tl, .ref lw, .int pl2_217, .int fa2_218])), (tb, .inl (Y 0, 120, .inl fb)), (lw, .inr (4, [.ref ws_, .ref ww, .ref wt, .ref wn, .ref wg, .ref wi, .int lz2_235])), (ws_, .inl (Y 0, 128, .inl fs2_236)), (ww, .inl (Y 0, 128, .inl fw2_237))]) ?_ rfl rfl rfl rfl
                have hc_0 : (0 : Int32).toInt = 0 := by decide
                have hc_126 : (126 : Int32).toInt = 126 := by decide
                refine V_goto X 170 (by decide) dX9_readOperand_162 ?_
                exact V_vret X hr dX9_readOperand_170 (Or.inr (⟨q_h, t_b, pl2_217, fa2_218, lz2_235, fs2_236, fw2_237, rfl, rfl, (by omega), ((pOp_u (by omega)).trans (pBd_n hRh)), (by omega), hDh, hLb⟩))
      · have hnm : 0 ≤ nmC (c pos) := by rw [← nmC_PK hpe]; omega
        have hnb := nmC_big hnm
        have hqlt := CHR_lt hCH (show c pos ≠ -1 by omega)
        refine V_aload_n X 1 rfl dX9_readOperand_31 ?_
        refine V_dup X rfl dX9_readOperand_32 ?_
        refine V_get (C := RX9) (T := TX9) (N := 5) (ci := 8) (v := .int pl) X in_X9_readOperand_X9 3 rfl rfl 3 (by decide) (List.mem_of_getElem? (i := 1) rfl) rfl rfl dX9_readOperand_33 ?_
        refine V_iconst (v := (1 : Int32)) X (by decide) dX9_readOperand_36 ?_
        refine V_iaddZ X tpl (show (1 : Int32).toInt = 1 from by decide) (by omega) (by omega) dX9_readOperand_37 (fun x_241 ex_241 tx_241 => ?_)
        have tx_241 : x_241.toInt = (((pos + 1) : Nat) : Int) := by omega
        refine V_put (C := RX9) (T := TX9) (N := 5) (ci := 8) (v := .int x_241) (ty := tyX9 3) (ws' := [(lw, .inr (4, [.ref ws_, .ref ww, .ref wt, .ref wn, .ref wg, .ref wi, .int lz])), (ws_, .inl (Y 0, 128, .inl fs)), (ww, .inl (Y 0, 128, .inl fw)), (tp, .inr (8, [.ref tb, .int tl, .ref lw, .int x_241, .int fa])), (tb, .inl (Y 0, 120, .inl fb))]) X in_X9_readOperand_X9 3 rfl rfl 3 (by decide) (List.mem_of_getElem? (i := 1) rfl) rfl tyX9 tyX9_ok nmX9 rfl (tyX9_ok 3 (by decide)) rfl rfl (Nat.le_of_ble_eq_true rfl) rfl dX9_readOperand_38 ?_
        refine V_aload_n X 1 rfl dX9_readOperand_41 ?_
        refine V_get (C := RX9) (T := TX9) (N := 5) (ci := 8) (v := .ref lw) X in_X9_readOperand_X9 3 rfl rfl 2 (by decide) (List.mem_of_getElem? (i := 2) rfl) rfl rfl dX9_readOperand_42 ?_
        refine V_bipush (v := (97 : Int32)) X (by decide) dX9_readOperand_45 ?_
        refine V_iload_n X 0 rfl dX9_readOperand_47 ?_
        refine V_callS (wr := [(lw, .inr (4, [.ref ws_, .ref ww, .ref wt, .ref wn, .ref wg, .ref wi, .int lz])), (ws_, .inl (Y 0, 128, .inl fs)), (ww, .inl (Y 0, 128, .inl fw)), (tp, .inr (8, [.ref tb, .int tl, .ref lw, .int x_241, .int fa])), (tb, .inl (Y 0, 120, .inl fb))]) (st := [.int (97 : Int32), .ref lw]) X (c_X9_nameOf l D Y r_2) 1 gX9_readOperand_X9_nameOf rfl (by decide +kernel) ⟨rfl, rfl⟩ ⟨(by simp only [headSpec]; omega), (by simp only [headSpec]; omega)⟩ [] [0, 1, 2, 3, 4] rfl rfl rfl rfl (by decide) rfl rfl (Nat.le_of_ble_eq_true rfl) ⟨Nat.le_of_ble_eq_true rfl, Nat.le_of_ble_eq_true rfl⟩ dX9_readOperand_48 (fun v_48 w_48 h_48 => ?_)
        obtain ⟨r_243, rfl, rfl, htr_244⟩ := h_48
        refine V_to (pc' := 51) (ls' := [(2, .int r_2), (0, .ref tp), (1, .int op_)]) (st' := [.int r_243, .int (97 : Int32), .ref lw]) (ws' := [(lw, .inr (4, [.ref ws_, .ref ww, .ref wt, .ref wn, .ref wg, .ref wi, .int lz])), (ws_, .inl (Y 0, 128, .inl fs)), (ww, .inl (Y 0, 128, .inl fw)), (tp, .inr (8, [.ref tb, .int tl, .ref lw, .int x_241, .int fa])), (tb, .inl (Y 0, 120, .inl fb))]) ?_ rfl rfl rfl rfl
        refine V_callV (C := RX5) (wr := [(tp, .inr (8, [.ref tb, .int tl, .ref lw, .int x_241, .int fa])), (tb, .inl (Y 0, 120, .inl fb))]) (st := []) X (c_X5_addT l D Y lw ws_ ww wt wn wg wi lz fs fw t0 (97 : Int32) r_243 hLC) 2 gX9_readOperand_X5_add rfl (by decide +kernel) ⟨rfl, rfl⟩ ⟨(by simp only [headSpec]; omega), (by simp only [headSpec]; omega)⟩ [0, 1, 2] [3, 4] rfl rfl rfl rfl (by decide) (ci := 4) rfl rfl 0 rfl rfl rfl (Nat.le_of_ble_eq_true rfl) ⟨Nat.le_of_ble_eq_true rfl, Nat.le_of_ble_eq_true rfl⟩ dX9_readOperand_51 (fun v_51 w_51 h_51 => ?_)
        obtain ⟨lz2_246, fs2_247, fw2_248, t_a, rfl, rfl, hLa, hta⟩ := h_51
        refine V_to (pc' := 54) (ls' := [(2, .int r_2), (0, .ref tp), (1, .int op_)]) (st' := []) (ws' := [(tp, .inr (8, [.ref tb, .int tl, .ref lw, .int x_241, .int fa])), (tb, .inl (Y 0, 120, .inl fb)), (lw, .inr (4, [.ref ws_, .ref ww, .ref wt, .ref wn, .ref wg, .ref wi, .int lz2_246])), (ws_, .inl (Y 0, 128, .inl fs2_247)), (ww, .inl (Y 0, 128, .inl fw2_248))]) ?_ rfl rfl rfl rfl
        have hc_97 : (97 : Int32).toInt = 97 := by decide
        have hta9 : t_a = t0 ++ [(97, nmC (c pos))] := by have h9 := hta (by omega); rw [show (97 : Int32).toInt = 97 from by decide, htr_244, nmC_PK hpe] at h9; exact h9
        refine V_goto X 170 (by decide) dX9_readOperand_54 ?_
        exact V_vret X hr dX9_readOperand_170 (Or.inl ⟨(pos + 1), [(97, nmC (c pos))], x_241, lz2_246, fs2_247, fw2_248, rfl, rfl, (by omega), (pOp_n hng hnm), ⟨Nat.le_refl _, by omega⟩, (hta9 ▸ hLa)⟩)
    · have hdg : 48 ≤ c pos ∧ c pos ≤ 57 := by unfold PK at hpe; omega
      refine V_aload_n X 1 rfl dX9_readOperand_17 ?_
      refine V_callV (C := RX9) (wr := []) (st := []) X (c_X9_readNumber l D Y tp tb lw tl pl fa pos L c ws_ ww wt wn wg wi lz fs fw t0 fb ttl hL tpl hpL hCH hLC hfa htp hdg) 0 gX9_readOperand_X9_readNumber rfl (by decide +kernel) ⟨rfl, rfl⟩ ⟨(by simp only [headSpec]; omega), (by simp only [headSpec]; omega)⟩ [3, 4, 0, 1, 2] [] rfl rfl rfl rfl (by decide) (ci := 8) rfl rfl 0 rfl rfl rfl (Nat.le_of_ble_eq_true rfl) ⟨Nat.le_of_ble_eq_true rfl, Nat.le_of_ble_eq_true rfl⟩ dX9_readOperand_18 (fun v_18 w_18 h_18 => ?_)
      obtain ⟨q_n, pl2_254, lz2_255, fs2_256, fw2_257, rfl, rfl, tpln, hqn, hqbn, hLn⟩ := h_18
      refine V_to (pc' := 21) (ls' := [(2, .int r_2), (0, .ref tp), (1, .int op_)]) (st' := []) (ws' := [(tp, .inr (8, [.ref tb, .int tl, .ref lw, .int pl2_254, .int fa])), (tb, .inl (Y 0, 120, .inl fb)), (lw, .inr (4, [.ref ws_, .ref ww, .ref wt, .ref wn, .ref wg, .ref wi, .int lz2_255])), (ws_, .inl (Y 0, 128, .inl fs2_256)), (ww, .inl (Y 0, 128, .inl fw2_257))]) ?_ rfl rfl rfl rfl
      by_cases h5 : 48 ≤ c q_n ∧ c q_n ≤ 57
      · refine V_goto X 170 (by decide) dX9_readOperand_21 ?_
        exact V_vret X hr dX9_readOperand_170 (Or.inr (⟨q_n, (t0 ++ [(48, (pDg c 4 pos 0).2)]), pl2_254, fa, lz2_255, fs2_256, fw2_257, rfl, rfl, (by omega), ((pOp_d hdg).trans (pFig_y hqn h5)), (by omega), (Or.inr h5), hLn⟩))
      · refine V_goto X 170 (by decide) dX9_readOperand_21 ?_
        exact V_vret X hr dX9_readOperand_170 (Or.inl ⟨q_n, [(48, (pDg c 4 pos 0).2)], pl2_254, lz2_255, fs2_256, fw2_257, rfl, rfl, (by omega), ((pOp_d hdg).trans (pFig_n hqn h5)), hqbn, hLn⟩)


set_option maxHeartbeats 4000000 in
set_option maxRecDepth 100000 in
theorem readT_all (k : Nat) (ihO : ∀ (l : Launch) (D : va_G) (Y : Nat → ClassId) (tp : Nat) (tb : Nat) (lw : Nat) (tl : Int32) (pl : Int32) (fa : Int32) (pos : Nat) (L : Nat) (c : Nat → Int) (ws_ : Nat) (ww : Nat) (wt : Nat) (wn : Nat) (wg : Nat) (wi : Nat) (lz : Int32) (fs : Nat → Int32) (fw : Nat → Int32) (t0 : List Tok) (fb : Nat → Int32) (op_ : Int32) (opn : Nat) (ttl : tl.toInt = ((L : Nat) : Int)) (hL : L ≤ 120) (tpl : pl.toInt = ((pos : Nat) : Int)) (hpL : pos ≤ L) (hCH : CHR fb L c) (hLC : LC fs fw lz t0) (hfa : fa.toInt = 0) (htp : t0.length ≤ pos) (top_ : op_.toInt = ((opn : Nat) : Int)) (hok : opn + k = 6), Mg l yX9_readOperand wsX9_readOperand ({ frames := 7 * (k) + 8, cells := 0, slots := 0, locals := 250 * (k) + 400 }) D Y [(tp, .inr (8, [.ref tb, .int tl, .ref lw, .int pl, .int fa])), (tb, .inl (Y 0, 120, .inl fb)), (lw, .inr (4, [.ref ws_, .ref ww, .ref wt, .ref wn, .ref wg, .ref wi, .int lz])), (ws_, .inl (Y 0, 128, .inl fs)), (ww, .inl (Y 0, 128, .inl fw))] [.ref tp, .int op_] 0 0 (fun vv__ ww__ => (∃ (q : Nat), ∃ (ts : List Tok), ∃ (pl2 : Int32), ∃ (lz2 : Int32), ∃ (fs2 : Nat → Int32), ∃ (fw2 : Nat → Int32), vv__ = none ∧ ww__ = [(tp, .inr (8, [.ref tb, .int tl, .ref lw, .int pl2, .int fa])), (tb, .inl (Y 0, 120, .inl fb)), (lw, .inr (4, [.ref ws_, .ref ww, .ref wt, .ref wn, .ref wg, .ref wi, .int lz2])), (ws_, .inl (Y 0, 128, .inl fs2)), (ww, .inl (Y 0, 128, .inl fw2))] ∧ (pl2.toInt = ((q : Nat) : Int)) ∧ (pOp c k pos = (q, some ts)) ∧ (pos + ts.length ≤ q ∧ q ≤ L) ∧ (LC fs2 fw2 lz2 (t0 ++ ts))) ∨ (∃ (q : Nat), ∃ (t1 : List Tok), ∃ (pl2 : Int32), ∃ (fa2 : Int32), ∃ (lz2 : Int32), ∃ (fs2 : Nat → Int32), ∃ (fw2 : Nat → Int32), vv__ = none ∧ ww__ = [(tp, .inr (8, [.ref tb, .int tl, .ref lw, .int pl2, .int fa2])), (tb, .inl (Y 0, 120, .inl fb)), (lw, .inr (4, [.ref ws_, .ref ww, .ref wt, .ref wn, .ref wg, .ref wi, .int lz2])), (ws_, .inl (Y 0, 128, .inl fs2)), (ww, .inl (Y 0, 128, .inl fw2))] ∧ (pl2.toInt = ((q : Nat) : Int)) ∧ (pOp c k pos = (q, none)) ∧ (q ≤ L) ∧ (fa2.toInt ≠ 0 ∨ (48 ≤ c q ∧ c q ≤ 57)) ∧ (LC fs2 fw2 lz2 t1)))) : ∀ j : Nat, ∀ (l : Launch) (D : va_G) (Y : Nat → ClassId) (tp : Nat) (tb : Nat) (lw : Nat) (tl : Int32) (pl : Int32) (fa : Int32) (pos : Nat) (L : Nat) (c : Nat → Int) (ws_ : Nat) (ww : Nat) (wt : Nat) (wn : Nat) (wg : Nat) (wi : Nat) (lz : Int32) (fs : Nat → Int32) (fw : Nat → Int32) (t0 : List Tok) (fb : Nat → Int32) (lv_ : Int32) (lev : Nat) (op_ : Int32) (opn : Nat) (ttl : tl.toInt = ((L : Nat) : Int)) (hL : L ≤ 120) (tpl : pl.toInt = ((pos : Nat) : Int)) (hpL : pos ≤ L) (hCH : CHR fb L c) (hLC : LC fs fw lz t0) (hfa : fa.toInt = 0) (htp : t0.length ≤ pos) (top_ : op_.toInt = ((opn : Nat) : Int)) (hok : opn + k = 6) (tlv_ : lv_.toInt = ((lev : Nat) : Int)) (hlj : lev + j = 5), Mg l yX9_readTerms wsX9_readTerms ({ frames := 7 * (k) + 9 + (j), cells := 0, slots := 0, locals := 250 * (k) + 430 + 30 * (j) }) D Y [(tp, .inr (8, [.ref tb, .int tl, .ref lw, .int pl, .int fa])), (tb, .inl (Y 0, 120, .inl fb)), (lw, .inr (4, [.ref ws_, .ref ww, .ref wt, .ref wn, .ref wg, .ref wi, .int lz])), (ws_, .inl (Y 0, 128, .inl fs)), (ww, .inl (Y 0, 128, .inl fw))] [.ref tp, .int lv_, .int op_] 0 0 (fun vv__ ww__ => (∃ (q : Nat), ∃ (ts : List Tok), ∃ (pl2 : Int32), ∃ (lz2 : Int32), ∃ (fs2 : Nat → Int32), ∃ (fw2 : Nat → Int32), vv__ = none ∧ ww__ = [(tp, .inr (8, [.ref tb, .int tl, .ref lw, .int pl2, .int fa])), (tb, .inl (Y 0, 120, .inl fb)), (lw, .inr (4, [.ref ws_, .ref ww, .ref wt, .ref wn, .ref wg, .ref wi, .int lz2])), (ws_, .inl (Y 0, 128, .inl fs2)), (ww, .inl (Y 0, 128, .inl fw2))] ∧ (pl2.toInt = ((q : Nat) : Int)) ∧ (pTm c (pOp c k) j pos = (q, some ts)) ∧ (pos + ts.length ≤ q ∧ q ≤ L) ∧ (LC fs2 fw2 lz2 (t0 ++ ts))) ∨ (∃ (q : Nat), ∃ (t1 : List Tok), ∃ (pl2 : Int32), ∃ (fa2 : Int32), ∃ (lz2 : Int32), ∃ (fs2 : Nat → Int32), ∃ (fw2 : Nat → Int32), vv__ = none ∧ ww__ = [(tp, .inr (8, [.ref tb, .int tl, .ref lw, .int pl2, .int fa2])), (tb, .inl (Y 0, 120, .inl fb)), (lw, .inr (4, [.ref ws_, .ref ww, .ref wt, .ref wn, .ref wg, .ref wi, .int lz2])), (ws_, .inl (Y 0, 128, .inl fs2)), (ww, .inl (Y 0, 128, .inl fw2))] ∧ (pl2.toInt = ((q : Nat) : Int)) ∧ (pTm c (pOp c k) j pos = (q, none)) ∧ (q ≤ L) ∧ (fa2.toInt ≠ 0 ∨ (48 ≤ c q ∧ c q ≤ 57)) ∧ (LC fs2 fw2 lz2 t1))) := by
  intro j
  induction j with
  | zero => intro l D Y tp tb lw tl pl fa pos L c ws_ ww wt wn wg wi lz fs fw t0 fb lv_ lev op_ opn ttl hL tpl hpL hCH hLC hfa htp top_ hok tlv_ hlj; exact c_X9_readTerms_0 l D Y tp tb lw tl pl fa pos L c ws_ ww wt wn wg wi lz fs fw t0 fb k lv_ lev op_ opn ttl hL tpl hpL hCH hLC hfa htp top_ hok tlv_ hlj ihO
  | succ j ihT => intro l D Y tp tb lw tl pl fa pos L c ws_ ww wt wn wg wi lz fs fw t0 fb lv_ lev op_ opn ttl hL tpl hpL hCH hLC hfa htp top_ hok tlv_ hlj; exact c_X9_readTerms_s l D Y tp tb lw tl pl fa pos L c ws_ ww wt wn wg wi lz fs fw t0 fb k j lv_ lev op_ opn ttl hL tpl hpL hCH hLC hfa htp top_ hok tlv_ hlj ihT
set_option maxHeartbeats 4000000 in
set_option maxRecDepth 100000 in
theorem readO_all : ∀ k : Nat, ∀ (l : Launch) (D : va_G) (Y : Nat → ClassId) (tp : Nat) (tb : Nat) (lw : Nat) (tl : Int32) (pl : Int32) (fa : Int32) (pos : Nat) (L : Nat) (c : Nat → Int) (ws_ : Nat) (ww : Nat) (wt : Nat) (wn : Nat) (wg : Nat) (wi : Nat) (lz : Int32) (fs : Nat → Int32) (fw : Nat → Int32) (t0 : List Tok) (fb : Nat → Int32) (op_ : Int32) (opn : Nat) (ttl : tl.toInt = ((L : Nat) : Int)) (hL : L ≤ 120) (tpl : pl.toInt = ((pos : Nat) : Int)) (hpL : pos ≤ L) (hCH : CHR fb L c) (hLC : LC fs fw lz t0) (hfa : fa.toInt = 0) (htp : t0.length ≤ pos) (top_ : op_.toInt = ((opn : Nat) : Int)) (hok : opn + k = 6), Mg l yX9_readOperand wsX9_readOperand ({ frames := 7 * (k) + 8, cells := 0, slots := 0, locals := 250 * (k) + 400 }) D Y [(tp, .inr (8, [.ref tb, .int tl, .ref lw, .int pl, .int fa])), (tb, .inl (Y 0, 120, .inl fb)), (lw, .inr (4, [.ref ws_, .ref ww, .ref wt, .ref wn, .ref wg, .ref wi, .int lz])), (ws_, .inl (Y 0, 128, .inl fs)), (ww, .inl (Y 0, 128, .inl fw))] [.ref tp, .int op_] 0 0 (fun vv__ ww__ => (∃ (q : Nat), ∃ (ts : List Tok), ∃ (pl2 : Int32), ∃ (lz2 : Int32), ∃ (fs2 : Nat → Int32), ∃ (fw2 : Nat → Int32), vv__ = none ∧ ww__ = [(tp, .inr (8, [.ref tb, .int tl, .ref lw, .int pl2, .int fa])), (tb, .inl (Y 0, 120, .inl fb)), (lw, .inr (4, [.ref ws_, .ref ww, .ref wt, .ref wn, .ref wg, .ref wi, .int lz2])), (ws_, .inl (Y 0, 128, .inl fs2)), (ww, .inl (Y 0, 128, .inl fw2))] ∧ (pl2.toInt = ((q : Nat) : Int)) ∧ (pOp c k pos = (q, some ts)) ∧ (pos + ts.length ≤ q ∧ q ≤ L) ∧ (LC fs2 fw2 lz2 (t0 ++ ts))) ∨ (∃ (q : Nat), ∃ (t1 : List Tok), ∃ (pl2 : Int32), ∃ (fa2 : Int32), ∃ (lz2 : Int32), ∃ (fs2 : Nat → Int32), ∃ (fw2 : Nat → Int32), vv__ = none ∧ ww__ = [(tp, .inr (8, [.ref tb, .int tl, .ref lw, .int pl2, .int fa2])), (tb, .inl (Y 0, 120, .inl fb)), (lw, .inr (4, [.ref ws_, .ref ww, .ref wt, .ref wn, .ref wg, .ref wi, .int lz2])), (ws_, .inl (Y 0, 128, .inl fs2)), (ww, .inl (Y 0, 128, .inl fw2))] ∧ (pl2.toInt = ((q : Nat) : Int)) ∧ (pOp c k pos = (q, none)) ∧ (q ≤ L) ∧ (fa2.toInt ≠ 0 ∨ (48 ≤ c q ∧ c q ≤ 57)) ∧ (LC fs2 fw2 lz2 t1))) := by
  intro k
  induction k with
  | zero => intro l D Y tp tb lw tl pl fa pos L c ws_ ww wt wn wg wi lz fs fw t0 fb op_ opn ttl hL tpl hpL hCH hLC hfa htp top_ hok; exact c_X9_readOperand_0 l D Y tp tb lw tl pl fa pos L c ws_ ww wt wn wg wi lz fs fw t0 fb op_ opn ttl hL tpl hpL hCH hLC hfa htp top_ hok
  | succ k ihO => intro l D Y tp tb lw tl pl fa pos L c ws_ ww wt wn wg wi lz fs fw t0 fb op_ opn ttl hL tpl hpL hCH hLC hfa htp top_ hok; exact c_X9_readOperand_s l D Y tp tb lw tl pl fa pos L c ws_ ww wt wn wg wi lz fs fw t0 fb k op_ opn ttl hL tpl hpL hCH hLC hfa htp top_ hok ihO (readT_all k ihO 5)

set_option maxHeartbeats 4000000 in
set_option maxRecDepth 100000 in
theorem c_X9_readTerms_00 (l : Launch) (D : va_G) (Y : Nat → ClassId) (tp : Nat) (tb : Nat) (lw : Nat) (tl : Int32) (pl : Int32) (fa : Int32) (pos : Nat) (L : Nat) (c : Nat → Int) (ws_ : Nat) (ww : Nat) (wt : Nat) (wn : Nat) (wg : Nat) (wi : Nat) (lz : Int32) (fs : Nat → Int32) (fw : Nat → Int32) (t0 : List Tok) (fb : Nat → Int32) (ttl : tl.toInt = ((L : Nat) : Int)) (hL : L ≤ 120) (tpl : pl.toInt = ((pos : Nat) : Int)) (hpL : pos ≤ L) (hCH : CHR fb L c) (hLC : LC fs fw lz t0) (hfa : fa.toInt = 0) (htp : t0.length ≤ pos) : Mg l yX9_readTerms wsX9_readTerms ({ frames := 7 * (6) + 9 + (5), cells := 0, slots := 0, locals := 250 * (6) + 430 + 30 * (5) }) D Y [(tp, .inr (8, [.ref tb, .int tl, .ref lw, .int pl, .int fa])), (tb, .inl (Y 0, 120, .inl fb)), (lw, .inr (4, [.ref ws_, .ref ww, .ref wt, .ref wn, .ref wg, .ref wi, .int lz])), (ws_, .inl (Y 0, 128, .inl fs)), (ww, .inl (Y 0, 128, .inl fw))] [.ref tp, .int (0 : Int32), .int (0 : Int32)] 0 0 (fun vv__ ww__ => (∃ (q : Nat), ∃ (ts : List Tok), ∃ (pl2 : Int32), ∃ (lz2 : Int32), ∃ (fs2 : Nat → Int32), ∃ (fw2 : Nat → Int32), vv__ = none ∧ ww__ = [(tp, .inr (8, [.ref tb, .int tl, .ref lw, .int pl2, .int fa])), (tb, .inl (Y 0, 120, .inl fb)), (lw, .inr (4, [.ref ws_, .ref ww, .ref wt, .ref wn, .ref wg, .ref wi, .int lz2])), (ws_, .inl (Y 0, 128, .inl fs2)), (ww, .inl (Y 0, 128, .inl fw2))] ∧ (pl2.toInt = ((q : Nat) : Int)) ∧ (pT0 c pos = (q, some ts)) ∧ (pos + ts.length ≤ q ∧ q ≤ L) ∧ (LC fs2 fw2 lz2 (t0 ++ ts))) ∨ (∃ (q : Nat), ∃ (t1 : List Tok), ∃ (pl2 : Int32), ∃ (fa2 : Int32), ∃ (lz2 : Int32), ∃ (fs2 : Nat → Int32), ∃ (fw2 : Nat → Int32), vv__ = none ∧ ww__ = [(tp, .inr (8, [.ref tb, .int tl, .ref lw, .int pl2, .int fa2])), (tb, .inl (Y 0, 120, .inl fb)), (lw, .inr (4, [.ref ws_, .ref ww, .ref wt, .ref wn, .ref wg, .ref wi, .int lz2])), (ws_, .inl (Y 0, 128, .inl fs2)), (ww, .inl (Y 0, 128, .inl fw2))] ∧ (pl2.toInt = ((q : Nat) : Int)) ∧ (pT0 c pos = (q, none)) ∧ (q ≤ L) ∧ (fa2.toInt ≠ 0 ∨ (48 ≤ c q ∧ c q ≤ 57)) ∧ (LC fs2 fw2 lz2 t1))) := readT_all 6 (readO_all 6) 5 l D Y tp tb lw tl pl fa pos L c ws_ ww wt wn wg wi lz fs fw t0 fb 0 0 0 0 ttl hL tpl hpL hCH hLC hfa htp (by decide) (by decide) (by decide) (by decide)
