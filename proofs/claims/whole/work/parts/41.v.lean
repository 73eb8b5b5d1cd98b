
/-! ===== the reference reads a TEXT (the rows fb_ are the kit's, given for pasting) ===== -/
theorem fb_rng (x : Int32) : -2147483648 ≤ x.toInt ∧ x.toInt < 2147483648 := by
  have h1 := Int32.le_toInt x
  have h2 := Int32.toInt_lt x
  omega
theorem fb_bmod {z : Int} (h1 : -2147483648 ≤ z) (h2 : z < 2147483648) : z.bmod (2 ^ 32) = z := by
  rw [Int.bmod_eq_of_le (by omega) (by omega)]
theorem fb_asI (x : Int32) : Int32.ofInt x.toInt = x := Int32.ofInt_toInt x
theorem fb_byte {x : Int32} (h1 : -128 ≤ x.toInt) (h2 : x.toInt < 128) : x.toInt8.toInt32 = x := by
  apply Int32.toInt_inj.1
  rw [Int8.toInt_toInt32, Int32.toInt_toInt8, Int.bmod_eq_of_le (by omega) (by omega)]
theorem fb_short {x : Int32} (h1 : -32768 ≤ x.toInt) (h2 : x.toInt < 32768) : x.toInt16.toInt32 = x := by
  apply Int32.toInt_inj.1
  rw [Int16.toInt_toInt32, Int32.toInt_toInt16, Int.bmod_eq_of_le (by omega) (by omega)]
def MCHR (f : Nat → Int32) (L : Nat) (c : Nat → Int) : Prop := ∀ j, (j < L → (f j).toInt = c j ∨ (c j = -1 ∧ (f j).toInt < 0)) ∧ (L ≤ j → c j = -1)
theorem MCHR_lt {f : Nat → Int32} {L : Nat} {c : Nat → Int} (h : MCHR f L c) {q : Nat} (h0 : c q ≠ -1) : q < L := by
  rcases Nat.lt_or_ge q L with g | g
  · exact g
  · exact absurd ((h q).2 g) h0
def mkT (t : Tok) : Tok := if t.1 = 48 then (1, t.2) else if t.1 = 97 then (2, t.2) else if t.1 = 33 then (3, 0) else if t.1 = 126 then (4, 0) else t
def LO (lo20 lo21 f g : Nat → Int32) : Prop := ∀ j, j < 130 → f j = lo20 j ∧ g j = lo21 j
def MC (lo20 lo21 f g : Nat → Int32) (lz : Int32) (t : List Tok) : Prop := lz.toInt = ((t.length : Nat) : Int) ∧ LO lo20 lo21 f g ∧ ∀ j, j < t.length → (f (130 + j)).toInt = (t.getD j (0, 0)).1 ∧ (g (130 + j)).toInt = (t.getD j (0, 0)).2
theorem LO_up {lo20 lo21 f g : Nat → Int32} (h : LO lo20 lo21 f g) {i : Nat} (hi : 130 ≤ i) (x y : Int32) : LO lo20 lo21 (upd f i x) (upd g i y) := by
  intro j hj
  unfold upd
  rw [if_neg (by omega), if_neg (by omega)]; exact h j hj
theorem MC_push {lo20 lo21 f g : Nat → Int32} {lz lz2 x y : Int32} {t : List Tok} {a b : Int} (h : MC lo20 lo21 f g lz t) (hz : lz2.toInt = ((t.length + 1 : Nat) : Int)) (hx : x.toInt = a) (hy : y.toInt = b) : MC lo20 lo21 (upd f (130 + t.length) x) (upd g (130 + t.length) y) lz2 (t ++ [(a, b)]) := by
  refine ⟨by rw [List.length_append, List.length_singleton]; exact hz, LO_up h.2.1 (by omega) _ _, fun j hj => ?_⟩
  rw [List.length_append, List.length_singleton] at hj
  unfold upd
  by_cases e : j = t.length
  · subst e; rw [if_pos rfl, if_pos rfl, gD_r (Nat.le_refl _), Nat.sub_self]; exact ⟨hx, hy⟩
  · rw [if_neg (by omega), if_neg (by omega), gD_l (by omega)]; exact h.2.2 j (by omega)
theorem by8 {x z : Int32} (hz : z = x.toInt8.toInt32) (h0 : 0 ≤ x.toInt) (h1 : x.toInt < 128) : (vp_nar .byte z).toInt = x.toInt := by
  rw [hz, pk_vb, fb_byte (by omega) (by omega)]
theorem nmC_M {x : Int32} {e : Int} (h : x.toInt = e ∨ (e = -1 ∧ x.toInt < 0)) : nmC x.toInt = nmC e := by
  rcases h with h | ⟨h1, h2⟩
  · rw [h]
  · rw [h1]; unfold nmC
    rw [if_neg (by omega), if_neg (by omega), if_neg (by omega), if_neg (by omega), if_neg (by omega), if_neg (by omega)]; decide
theorem lv4 {e : Int} : lvC e = 4 ↔ (e = 42 ∨ e = 47 ∨ e = 37) := by unfold lvC; constructor <;> intro h <;> (repeat' split at h) <;> (repeat' split) <;> omega
theorem lv3 {e : Int} : lvC e = 3 ↔ (e = 43 ∨ e = 45) := by unfold lvC; constructor <;> intro h <;> (repeat' split at h) <;> (repeat' split) <;> omega
theorem lv2 {e : Int} : lvC e = 2 ↔ (e = 60 ∨ e = 61 ∨ e = 62) := by unfold lvC; constructor <;> intro h <;> (repeat' split at h) <;> (repeat' split) <;> omega
theorem lv1 {e : Int} : lvC e = 1 ↔ e = 38 := by unfold lvC; constructor <;> intro h <;> (repeat' split at h) <;> (repeat' split) <;> omega
theorem lv0 {e : Int} : lvC e = 0 ↔ e = 124 := by unfold lvC; constructor <;> intro h <;> (repeat' split at h) <;> (repeat' split) <;> omega
theorem mkT_op {e : Int} (h : 0 ≤ lvC e) : mkT (e, 0) = (e, 0) := by
  unfold lvC at h; unfold mkT
  (repeat' split at h) <;> (rw [if_neg (by show ¬ e = _; omega), if_neg (by show ¬ e = _; omega), if_neg (by show ¬ e = _; omega), if_neg (by show ¬ e = _; omega)]) <;> omega
def pFg (c : Nat → Int) (pos : Nat) : PRs := if 48 ≤ c pos ∧ c pos ≤ 57 then pFig c pos else (pos, none)
theorem pFg_0 {c : Nat → Int} {pos q : Nat} (hD : pDg c 4 pos 0 = (q, 0)) (hq : q = pos) (hn : ¬ (48 ≤ c pos ∧ c pos ≤ 57)) : pFg c pos = (q, none) := by unfold pFg; rw [if_neg hn, hq]
theorem pOp_f {c : Nat → Int} {k pos : Nat} (h : nmC (c pos) < 0) (h3 : c pos ≠ 40 ∧ c pos ≠ 33 ∧ c pos ≠ 45) : pOp c k pos = pFg c pos := by
  unfold pFg
  by_cases hd : 48 ≤ c pos ∧ c pos ≤ 57
  · rw [if_pos hd, pOp_d hd]
  · rw [if_neg hd, pOp_x hd h (Or.inr h3)]
theorem mapp {t0 : List Tok} {a b : List Tok} : t0 ++ (a ++ b).map mkT = (t0 ++ a.map mkT) ++ b.map mkT := by rw [List.map_append, List.append_assoc]
theorem mpush {t0 a b : List Tok} {e : Int} (h : 0 ≤ lvC e) : ((t0 ++ a.map mkT) ++ b.map mkT) ++ [(e, 0)] = t0 ++ (a ++ b ++ [(e, 0)]).map mkT := by
  rw [List.map_append, List.map_append, List.map_singleton, mkT_op h]; simp only [List.append_assoc]
theorem in_X11_look_X11 : ∀ w ∈ wsX110, w ∈ wsX11_look := fun w h => List.mem_cons_of_mem _ (List.mem_append_right _ h)
set_option maxHeartbeats 4000000 in
set_option maxRecDepth 100000 in
theorem c_X11_look (l : Launch) (D : va_G) (Y : Nat → ClassId) (m : Nat) (R : Nat → Nat) (v0 : Int32) (v7 : Int32) (v8 : Int32) (v9 : Int32) (v15 : Int32) (v16 : Int32) (v17 : Int32) (v18 : Int32) (v19 : Int32) (v27 : Int32) (v31 : Int32) (v32 : Int32) (v33 : Int32) (v34 : Int32) (v38 : Int32) (v42 : Int32) (v44 : Int32) (a14 : Nat → Int32) (L : Nat) (c : Nat → Int) (pos : Nat) (tv15 : v15.toInt = ((L : Nat) : Int)) (tv16 : v16.toInt = ((pos : Nat) : Int)) (hL : L ≤ 120) (hpL : pos ≤ L) (hCH : MCHR a14 L c) : Mg l yX11_look wsX11_look ({ frames := 0, cells := 0, slots := 0, locals := 0 }) D Y [(m, .inr (10, mF R v0 v7 v8 v9 v15 v16 v17 v18 v19 v27 v31 v32 v33 v34 v38 v42 v44)), ((R 14), .inl (Y 2, 120, .inl a14))] [.ref m] 0 0 (fun vv__ ww__ => (∃ (r : Int32), vv__ = some (.int r) ∧ ww__ = [(m, .inr (10, mF R v0 v7 v8 v9 v15 v16 v17 v18 v19 v27 v31 v32 v33 v34 v38 v42 v44)), ((R 14), .inl (Y 2, 120, .inl a14))] ∧ (r.toInt = c pos ∨ (c pos = -1 ∧ r.toInt < 0)))) := by
  refine Mg_of (cc := cX11_look) (maxL := 1) (ret := (some .int)) (ls0 := [(0, .ref m)]) RX11 (by decide) rfl rfl rfl (Nat.le_of_ble_eq_true rfl) (fun p__ e__ s__ m__ b__ t__ c__ X hr hn => ?_)
  refine V_aload_n X 0 rfl dX11_look_0 ?_
  refine V_get (C := RX11) (T := TX11) (N := 50) (ci := 10) (v := .int v16) X in_X11_look_X11 0 rfl rfl 16 (by decide) (List.mem_of_getElem? (i := 1) rfl) rfl rfl dX11_look_1 ?_
  refine V_aload_n X 0 rfl dX11_look_4 ?_
  refine V_get (C := RX11) (T := TX11) (N := 50) (ci := 10) (v := .int v15) X in_X11_look_X11 0 rfl rfl 15 (by decide) (List.mem_of_getElem? (i := 2) rfl) rfl rfl dX11_look_5 ?_
  refine V_icmp_ge X tv16 tv15 23 dX11_look_8 (by decide) (fun c_8 => ?_) (fun c_8 => ?_)
  · refine V_iconst (v := (-1 : Int32)) X (by decide) dX11_look_23 ?_
    exact V_iret X hr dX11_look_24 (⟨(-1 : Int32), rfl, rfl, (Or.inl (by rw [(hCH pos).2 (by omega)]; decide))⟩)
  · refine V_aload_n X 0 rfl dX11_look_11 ?_
    refine V_get (C := RX11) (T := TX11) (N := 50) (ci := 10) (v := .ref (R 14)) X in_X11_look_X11 0 rfl rfl 14 (by decide) (List.mem_of_getElem? (i := 3) rfl) rfl rfl dX11_look_12 ?_
    refine V_aload_n X 0 rfl dX11_look_15 ?_
    refine V_get (C := RX11) (T := TX11) (N := 50) (ci := 10) (v := .int v16) X in_X11_look_X11 0 rfl rfl 16 (by decide) (List.mem_of_getElem? (i := 1) rfl) rfl rfl dX11_look_16 ?_
    refine V_bald X 1 pos rfl tv16 (by omega) dX11_look_19 ?_
    refine V_goto X 24 (by decide) dX11_look_20 ?_
    exact V_iret X hr dX11_look_24 (⟨(a14 pos), rfl, rfl, ((hCH pos).1 (by omega))⟩)

theorem in_X11_faulty_X11 : ∀ w ∈ wsX110, w ∈ wsX11_faulty := fun w h => List.mem_cons_of_mem _ (List.mem_append_right _ h)
set_option maxHeartbeats 4000000 in
set_option maxRecDepth 100000 in
theorem c_X11_faulty (l : Launch) (D : va_G) (Y : Nat → ClassId) (m : Nat) (R : Nat → Nat) (v0 : Int32) (v7 : Int32) (v8 : Int32) (v9 : Int32) (v15 : Int32) (v16 : Int32) (v17 : Int32) (v18 : Int32) (v19 : Int32) (v27 : Int32) (v31 : Int32) (v32 : Int32) (v33 : Int32) (v34 : Int32) (v38 : Int32) (v42 : Int32) (v44 : Int32) (tv17 : v17.toInt = (-1)) : Mg l yX11_faulty wsX11_faulty ({ frames := 0, cells := 0, slots := 0, locals := 0 }) D Y [(m, .inr (10, mF R v0 v7 v8 v9 v15 v16 v17 v18 v19 v27 v31 v32 v33 v34 v38 v42 v44))] [.ref m] 0 0 (fun vv__ ww__ => (vv__ = none ∧ ww__ = [(m, .inr (10, mF R v0 v7 v8 v9 v15 v16 v16 v18 v19 v27 v31 v32 v33 v34 v38 v42 v44))])) := by
  refine Mg_of (cc := cX11_faulty) (maxL := 1) (ret := none) (ls0 := [(0, .ref m)]) RX11 (by decide) rfl rfl rfl (Nat.le_of_ble_eq_true rfl) (fun p__ e__ s__ m__ b__ t__ c__ X hr hn => ?_)
  refine V_aload_n X 0 rfl dX11_faulty_0 ?_
  refine V_get (C := RX11) (T := TX11) (N := 50) (ci := 10) (v := .int v17) X in_X11_faulty_X11 0 rfl rfl 17 (by decide) (List.mem_of_getElem? (i := 1) rfl) rfl rfl dX11_faulty_1 ?_
  refine V_if_ge X tv17 15 dX11_faulty_4 (by decide) (fun c_4 => absurd c_4 (by decide)) (fun _ => ?_)
  refine V_aload_n X 0 rfl dX11_faulty_7 ?_
  refine V_aload_n X 0 rfl dX11_faulty_8 ?_
  refine V_get (C := RX11) (T := TX11) (N := 50) (ci := 10) (v := .int v16) X in_X11_faulty_X11 0 rfl rfl 16 (by decide) (List.mem_of_getElem? (i := 2) rfl) rfl rfl dX11_faulty_9 ?_
  refine V_put (C := RX11) (T := TX11) (N := 50) (ci := 10) (v := .int v16) (ty := tyX11 17) (ws' := [(m, .inr (10, mF R v0 v7 v8 v9 v15 v16 v16 v18 v19 v27 v31 v32 v33 v34 v38 v42 v44))]) X in_X11_faulty_X11 0 rfl rfl 17 (by decide) (List.mem_of_getElem? (i := 1) rfl) rfl tyX11 tyX11_ok nmX11 rfl (tyX11_ok 17 (by decide)) rfl rfl (Nat.le_of_ble_eq_true rfl) rfl dX11_faulty_12 ?_
  exact V_vret X hr dX11_faulty_15 (⟨rfl, rfl⟩)

theorem in_X11_addStep_X11 : ∀ w ∈ wsX110, w ∈ wsX11_addStep := fun w h => List.mem_cons_of_mem _ (List.mem_append_right _ h)
set_option maxHeartbeats 4000000 in
set_option maxRecDepth 100000 in
theorem c_X11_addStep (l : Launch) (D : va_G) (Y : Nat → ClassId) (m : Nat) (R : Nat → Nat) (v0 : Int32) (v7 : Int32) (v8 : Int32) (v9 : Int32) (v15 : Int32) (v16 : Int32) (v17 : Int32) (v18 : Int32) (v19 : Int32) (v27 : Int32) (v31 : Int32) (v32 : Int32) (v33 : Int32) (v34 : Int32) (v38 : Int32) (v42 : Int32) (v44 : Int32) (a20 : Nat → Int32) (a21 : Nat → Int32) (lo20 : Nat → Int32) (lo21 : Nat → Int32) (t0 : List Tok) (x : Int32) (y : Int32) (hMC : MC lo20 lo21 a20 a21 v19 t0) (hlt : t0.length < 130) (hx : 0 ≤ x.toInt ∧ x.toInt < 128) : Mg l yX11_addStep wsX11_addStep ({ frames := 0, cells := 0, slots := 0, locals := 0 }) D Y [(m, .inr (10, mF R v0 v7 v8 v9 v15 v16 v17 v18 v19 v27 v31 v32 v33 v34 v38 v42 v44)), ((R 20), .inl (Y 2, 260, .inl a20)), ((R 21), .inl (Y 0, 260, .inl a21))] [.ref m, .int x, .int y] 0 0 (fun vv__ ww__ => (∃ (z19 : Int32), ∃ (b20 : Nat → Int32), ∃ (b21 : Nat → Int32), vv__ = none ∧ ww__ = [(m, .inr (10, mF R v0 v7 v8 v9 v15 v16 v17 v18 z19 v27 v31 v32 v33 v34 v38 v42 v44)), ((R 20), .inl (Y 2, 260, .inl b20)), ((R 21), .inl (Y 0, 260, .inl b21))] ∧ (MC lo20 lo21 b20 b21 z19 (t0 ++ [(x.toInt, y.toInt)])))) := by
  refine Mg_of (cc := cX11_addStep) (maxL := 3) (ret := none) (ls0 := [(0, .ref m), (1, .int x), (2, .int y)]) RX11 (by decide) rfl rfl rfl (Nat.le_of_ble_eq_true rfl) (fun p__ e__ s__ m__ b__ t__ c__ X hr hn => ?_)
  refine V_aload_n X 0 rfl dX11_addStep_0 ?_
  refine V_get (C := RX11) (T := TX11) (N := 50) (ci := 10) (v := .ref (R 20)) X in_X11_addStep_X11 0 rfl rfl 20 (by decide) (List.mem_of_getElem? (i := 1) rfl) rfl rfl dX11_addStep_1 ?_
  refine V_sipush (v := (130 : Int32)) X (by decide) dX11_addStep_4 ?_
  refine V_aload_n X 0 rfl dX11_addStep_7 ?_
  refine V_get (C := RX11) (T := TX11) (N := 50) (ci := 10) (v := .int v19) X in_X11_addStep_X11 0 rfl rfl 19 (by decide) (List.mem_of_getElem? (i := 2) rfl) rfl rfl dX11_addStep_8 ?_
  refine V_iaddZ X (show (130 : Int32).toInt = 130 from by decide) hMC.1 (by omega) (by omega) dX11_addStep_11 (fun x_1 ex_1 tx_1 => ?_)
  have tx_1 : x_1.toInt = (((130 + t0.length) : Nat) : Int) := by omega
  refine V_iload_n X 1 rfl dX11_addStep_12 ?_
  refine V_i2b X rfl dX11_addStep_13 ?_
  refine V_nm (fun x_2 ex_2 => ?_)
  have hi2b : x_2 = x.toInt8.toInt32 := ex_2
  refine V_bast (ws' := [(m, .inr (10, mF R v0 v7 v8 v9 v15 v16 v17 v18 v19 v27 v31 v32 v33 v34 v38 v42 v44)), ((R 20), .inl (Y 2, 260, .inl (upd a20 (130 + t0.length) (vp_nar .byte x_2)))), ((R 21), .inl (Y 0, 260, .inl a21))]) X 1 (130 + t0.length) rfl tx_1 (by omega) rfl dX11_addStep_14 ?_
  refine V_aload_n X 0 rfl dX11_addStep_15 ?_
  refine V_get (C := RX11) (T := TX11) (N := 50) (ci := 10) (v := .ref (R 21)) X in_X11_addStep_X11 0 rfl rfl 21 (by decide) (List.mem_of_getElem? (i := 3) rfl) rfl rfl dX11_addStep_16 ?_
  refine V_sipush (v := (130 : Int32)) X (by decide) dX11_addStep_19 ?_
  refine V_aload_n X 0 rfl dX11_addStep_22 ?_
  refine V_get (C := RX11) (T := TX11) (N := 50) (ci := 10) (v := .int v19) X in_X11_addStep_X11 0 rfl rfl 19 (by decide) (List.mem_of_getElem? (i := 2) rfl) rfl rfl dX11_addStep_23 ?_
  refine V_iaddZ X (show (130 : Int32).toInt = 130 from by decide) hMC.1 (by omega) (by omega) dX11_addStep_26 (fun x_3 ex_3 tx_3 => ?_)
  have tx_3 : x_3.toInt = (((130 + t0.length) : Nat) : Int) := by omega
  refine V_iload_n X 2 rfl dX11_addStep_27 ?_
  refine V_iast (ws' := [(m, .inr (10, mF R v0 v7 v8 v9 v15 v16 v17 v18 v19 v27 v31 v32 v33 v34 v38 v42 v44)), ((R 20), .inl (Y 2, 260, .inl (upd a20 (130 + t0.length) (vp_nar .byte x_2)))), ((R 21), .inl (Y 0, 260, .inl (upd a21 (130 + t0.length) y)))]) X 2 (130 + t0.length) rfl tx_3 (by omega) rfl dX11_addStep_28 ?_
  refine V_aload_n X 0 rfl dX11_addStep_29 ?_
  refine V_dup X rfl dX11_addStep_30 ?_
  refine V_get (C := RX11) (T := TX11) (N := 50) (ci := 10) (v := .int v19) X in_X11_addStep_X11 0 rfl rfl 19 (by decide) (List.mem_of_getElem? (i := 2) rfl) rfl rfl dX11_addStep_31 ?_
  refine V_iconst (v := (1 : Int32)) X (by decide) dX11_addStep_34 ?_
  refine V_iaddZ X hMC.1 (show (1 : Int32).toInt = 1 from by decide) (by omega) (by omega) dX11_addStep_35 (fun x_4 ex_4 tx_4 => ?_)
  have tx_4 : x_4.toInt = (((t0.length + 1) : Nat) : Int) := by omega
  refine V_put (C := RX11) (T := TX11) (N := 50) (ci := 10) (v := .int x_4) (ty := tyX11 19) (ws' := [(m, .inr (10, mF R v0 v7 v8 v9 v15 v16 v17 v18 x_4 v27 v31 v32 v33 v34 v38 v42 v44)), ((R 20), .inl (Y 2, 260, .inl (upd a20 (130 + t0.length) (vp_nar .byte x_2)))), ((R 21), .inl (Y 0, 260, .inl (upd a21 (130 + t0.length) y)))]) X in_X11_addStep_X11 0 rfl rfl 19 (by decide) (List.mem_of_getElem? (i := 2) rfl) rfl tyX11 tyX11_ok nmX11 rfl (tyX11_ok 19 (by decide)) rfl rfl (Nat.le_of_ble_eq_true rfl) rfl dX11_addStep_36 ?_
  exact V_vret X hr dX11_addStep_39 (⟨x_4, (upd a20 (130 + t0.length) (vp_nar .byte x_2)), (upd a21 (130 + t0.length) y), rfl, rfl, (MC_push hMC (by omega) (by8 hi2b (by omega) (by omega)) rfl)⟩)

set_option maxHeartbeats 4000000 in
set_option maxRecDepth 100000 in
theorem c_X11_addStepD (l : Launch) (D : va_G) (Y : Nat → ClassId) (m : Nat) (R : Nat → Nat) (v0 : Int32) (v7 : Int32) (v8 : Int32) (v9 : Int32) (v15 : Int32) (v16 : Int32) (v17 : Int32) (v18 : Int32) (v19 : Int32) (v27 : Int32) (v31 : Int32) (v32 : Int32) (v33 : Int32) (v34 : Int32) (v38 : Int32) (v42 : Int32) (v44 : Int32) (a20 : Nat → Int32) (a21 : Nat → Int32) (lo20 : Nat → Int32) (lo21 : Nat → Int32) (ln : Nat) (x : Int32) (y : Int32) (tv19 : v19.toInt = ((ln : Nat) : Int)) (hLO : LO lo20 lo21 a20 a21) (hlt : ln < 130) : Mg l yX11_addStep wsX11_addStep ({ frames := 0, cells := 0, slots := 0, locals := 0 }) D Y [(m, .inr (10, mF R v0 v7 v8 v9 v15 v16 v17 v18 v19 v27 v31 v32 v33 v34 v38 v42 v44)), ((R 20), .inl (Y 2, 260, .inl a20)), ((R 21), .inl (Y 0, 260, .inl a21))] [.ref m, .int x, .int y] 0 0 (fun vv__ ww__ => (∃ (z19 : Int32), ∃ (b20 : Nat → Int32), ∃ (b21 : Nat → Int32), vv__ = none ∧ ww__ = [(m, .inr (10, mF R v0 v7 v8 v9 v15 v16 v17 v18 z19 v27 v31 v32 v33 v34 v38 v42 v44)), ((R 20), .inl (Y 2, 260, .inl b20)), ((R 21), .inl (Y 0, 260, .inl b21))] ∧ (z19.toInt = ((ln + 1 : Nat) : Int)) ∧ (LO lo20 lo21 b20 b21))) := by
  refine Mg_of (cc := cX11_addStep) (maxL := 3) (ret := none) (ls0 := [(0, .ref m), (1, .int x), (2, .int y)]) RX11 (by decide) rfl rfl rfl (Nat.le_of_ble_eq_true rfl) (fun p__ e__ s__ m__ b__ t__ c__ X hr hn => ?_)
  refine V_aload_n X 0 rfl dX11_addStep_0 ?_
  refine V_get (C := RX11) (T := TX11) (N := 50) (ci := 10) (v := .ref (R 20)) X in_X11_addStep_X11 0 rfl rfl 20 (by decide) (List.mem_of_getElem? (i := 1) rfl) rfl rfl dX11_addStep_1 ?_
  refine V_sipush (v := (130 : Int32)) X (by decide) dX11_addStep_4 ?_
  refine V_aload_n X 0 rfl dX11_addStep_7 ?_
  refine V_get (C := RX11) (T := TX11) (N := 50) (ci := 10) (v := .int v19) X in_X11_addStep_X11 0 rfl rfl 19 (by decide) (List.mem_of_getElem? (i := 2) rfl) rfl rfl dX11_addStep_8 ?_
  refine V_iaddZ X (show (130 : Int32).toInt = 130 from by decide) tv19 (by omega) (by omega) dX11_addStep_11 (fun x_1 ex_1 tx_1 => ?_)
  have tx_1 : x_1.toInt = (((130 + ln) : Nat) : Int) := by omega
  refine V_iload_n X 1 rfl dX11_addStep_12 ?_
  refine V_i2b X rfl dX11_addStep_13 ?_
  refine V_nm (fun x_2 ex_2 => ?_)
  refine V_bast (ws' := [(m, .inr (10, mF R v0 v7 v8 v9 v15 v16 v17 v18 v19 v27 v31 v32 v33 v34 v38 v42 v44)), ((R 20), .inl (Y 2, 260, .inl (upd a20 (130 + ln) (vp_nar .byte x_2)))), ((R 21), .inl (Y 0, 260, .inl a21))]) X 1 (130 + ln) rfl tx_1 (by omega) rfl dX11_addStep_14 ?_
  refine V_aload_n X 0 rfl dX11_addStep_15 ?_
  refine V_get (C := RX11) (T := TX11) (N := 50) (ci := 10) (v := .ref (R 21)) X in_X11_addStep_X11 0 rfl rfl 21 (by decide) (List.mem_of_getElem? (i := 3) rfl) rfl rfl dX11_addStep_16 ?_
  refine V_sipush (v := (130 : Int32)) X (by decide) dX11_addStep_19 ?_
  refine V_aload_n X 0 rfl dX11_addStep_22 ?_
  refine V_get (C := RX11) (T := TX11) (N := 50) (ci := 10) (v := .int v19) X in_X11_addStep_X11 0 rfl rfl 19 (by decide) (List.mem_of_getElem? (i := 2) rfl) rfl rfl dX11_addStep_23 ?_
  refine V_iaddZ X (show (130 : Int32).toInt = 130 from by decide) tv19 (by omega) (by omega) dX11_addStep_26 (fun x_3 ex_3 tx_3 => ?_)
  have tx_3 : x_3.toInt = (((130 + ln) : Nat) : Int) := by omega
  refine V_iload_n X 2 rfl dX11_addStep_27 ?_
  refine V_iast (ws' := [(m, .inr (10, mF R v0 v7 v8 v9 v15 v16 v17 v18 v19 v27 v31 v32 v33 v34 v38 v42 v44)), ((R 20), .inl (Y 2, 260, .inl (upd a20 (130 + ln) (vp_nar .byte x_2)))), ((R 21), .inl (Y 0, 260, .inl (upd a21 (130 + ln) y)))]) X 2 (130 + ln) rfl tx_3 (by omega) rfl dX11_addStep_28 ?_
  refine V_aload_n X 0 rfl dX11_addStep_29 ?_
  refine V_dup X rfl dX11_addStep_30 ?_
  refine V_get (C := RX11) (T := TX11) (N := 50) (ci := 10) (v := .int v19) X in_X11_addStep_X11 0 rfl rfl 19 (by decide) (List.mem_of_getElem? (i := 2) rfl) rfl rfl dX11_addStep_31 ?_
  refine V_iconst (v := (1 : Int32)) X (by decide) dX11_addStep_34 ?_
  refine V_iaddZ X tv19 (show (1 : Int32).toInt = 1 from by decide) (by omega) (by omega) dX11_addStep_35 (fun x_4 ex_4 tx_4 => ?_)
  have tx_4 : x_4.toInt = (((ln + 1) : Nat) : Int) := by omega
  refine V_put (C := RX11) (T := TX11) (N := 50) (ci := 10) (v := .int x_4) (ty := tyX11 19) (ws' := [(m, .inr (10, mF R v0 v7 v8 v9 v15 v16 v17 v18 x_4 v27 v31 v32 v33 v34 v38 v42 v44)), ((R 20), .inl (Y 2, 260, .inl (upd a20 (130 + ln) (vp_nar .byte x_2)))), ((R 21), .inl (Y 0, 260, .inl (upd a21 (130 + ln) y)))]) X in_X11_addStep_X11 0 rfl rfl 19 (by decide) (List.mem_of_getElem? (i := 2) rfl) rfl tyX11 tyX11_ok nmX11 rfl (tyX11_ok 19 (by decide)) rfl rfl (Nat.le_of_ble_eq_true rfl) rfl dX11_addStep_36 ?_
  exact V_vret X hr dX11_addStep_39 (⟨x_4, (upd a20 (130 + ln) (vp_nar .byte x_2)), (upd a21 (130 + ln) y), rfl, rfl, (by omega), (LO_up hLO (by omega) _ _)⟩)

set_option maxHeartbeats 4000000 in
set_option maxRecDepth 100000 in
theorem c_X11_nameOf (l : Launch) (D : va_G) (Y : Nat → ClassId) (x : Int32) : Mg l yX11_nameOf wsX11_nameOf ({ frames := 0, cells := 0, slots := 0, locals := 0 }) D Y [] [.int x] 0 0 (fun vv__ ww__ => (∃ (r : Int32), vv__ = some (.int r) ∧ ww__ = [] ∧ (r.toInt = nmC x.toInt))) := by
  refine Mg_of (cc := cX11_nameOf) (maxL := 1) (ret := (some .int)) (ls0 := [(0, .int x)]) RX11 (by decide) rfl rfl rfl (Nat.le_of_ble_eq_true rfl) (fun p__ e__ s__ m__ b__ t__ c__ X hr hn => ?_)
  refine V_iload_n X 0 rfl dX11_nameOf_0 ?_
  have t_1 : x.toInt = x.toInt := rfl
  rcases (by omega : x.toInt = 97 ∨ x.toInt = 107 ∨ x.toInt = 114 ∨ x.toInt = 115 ∨ x.toInt = 116 ∨ x.toInt = 119 ∨ (x.toInt ≠ 97 ∧ x.toInt ≠ 107 ∧ x.toInt ≠ 114 ∧ x.toInt ≠ 115 ∧ x.toInt ≠ 116 ∧ x.toInt ≠ 119)) with c_1 | c_1 | c_1 | c_1 | c_1 | c_1 | c_1
  · refine V_lookup X 60 dX11_nameOf_1 (by decide) (by rw [t_1, c_1] <;> decide) (by decide) ?_
    refine V_iconst (v := (0 : Int32)) X (by decide) dX11_nameOf_60 ?_
    exact V_iret X hr dX11_nameOf_61 (⟨(0 : Int32), rfl, rfl, (by rw [c_1]; decide)⟩)
  · refine V_lookup X 70 dX11_nameOf_1 (by decide) (by rw [t_1, c_1] <;> decide) (by decide) ?_
    refine V_iconst (v := (5 : Int32)) X (by decide) dX11_nameOf_70 ?_
    exact V_iret X hr dX11_nameOf_71 (⟨(5 : Int32), rfl, rfl, (by rw [c_1]; decide)⟩)
  · refine V_lookup X 66 dX11_nameOf_1 (by decide) (by rw [t_1, c_1] <;> decide) (by decide) ?_
    refine V_iconst (v := (3 : Int32)) X (by decide) dX11_nameOf_66 ?_
    exact V_iret X hr dX11_nameOf_67 (⟨(3 : Int32), rfl, rfl, (by rw [c_1]; decide)⟩)
  · refine V_lookup X 68 dX11_nameOf_1 (by decide) (by rw [t_1, c_1] <;> decide) (by decide) ?_
    refine V_iconst (v := (4 : Int32)) X (by decide) dX11_nameOf_68 ?_
    exact V_iret X hr dX11_nameOf_69 (⟨(4 : Int32), rfl, rfl, (by rw [c_1]; decide)⟩)
  · refine V_lookup X 62 dX11_nameOf_1 (by decide) (by rw [t_1, c_1] <;> decide) (by decide) ?_
    refine V_iconst (v := (1 : Int32)) X (by decide) dX11_nameOf_62 ?_
    exact V_iret X hr dX11_nameOf_63 (⟨(1 : Int32), rfl, rfl, (by rw [c_1]; decide)⟩)
  · refine V_lookup X 64 dX11_nameOf_1 (by decide) (by rw [t_1, c_1] <;> decide) (by decide) ?_
    refine V_iconst (v := (2 : Int32)) X (by decide) dX11_nameOf_64 ?_
    exact V_iret X hr dX11_nameOf_65 (⟨(2 : Int32), rfl, rfl, (by rw [c_1]; decide)⟩)
  · refine V_lookup X 72 dX11_nameOf_1 (by decide) (lk_none _ _ _ (by intro q hq; simp only [List.mem_cons, List.not_mem_nil, or_false] at hq; rw [t_1]; rcases hq with rfl | rfl | rfl | rfl | rfl | rfl <;> (try simp only []) <;> omega)) (by decide) ?_
    refine V_iconst (v := (-1 : Int32)) X (by decide) dX11_nameOf_72 ?_
    exact V_iret X hr dX11_nameOf_73 (⟨(-1 : Int32), rfl, rfl, (by unfold nmC; rw [if_neg (by omega), if_neg (by omega), if_neg (by omega), if_neg (by omega), if_neg (by omega), if_neg (by omega)]; decide)⟩)

theorem in_X11_opens_X11 : ∀ w ∈ wsX110, w ∈ wsX11_opens := fun w h => List.mem_cons_of_mem _ (List.mem_append_right _ h)
set_option maxHeartbeats 4000000 in
set_option maxRecDepth 100000 in
theorem c_X11_opens (l : Launch) (D : va_G) (Y : Nat → ClassId) (m : Nat) (R : Nat → Nat) (v0 : Int32) (v7 : Int32) (v8 : Int32) (v9 : Int32) (v15 : Int32) (v16 : Int32) (v17 : Int32) (v18 : Int32) (v19 : Int32) (v27 : Int32) (v31 : Int32) (v32 : Int32) (v33 : Int32) (v34 : Int32) (v38 : Int32) (v42 : Int32) (v44 : Int32) (pos : Nat) (opn : Nat) (tv17 : v17.toInt = (-1)) (tv16 : v16.toInt = ((pos : Nat) : Int)) (hp : pos < 120) (tv18 : v18.toInt = ((opn : Nat) : Int)) (ho : opn ≤ 6) : Mg l yX11_opens wsX11_opens ({ frames := 1, cells := 0, slots := 0, locals := 20 }) D Y [(m, .inr (10, mF R v0 v7 v8 v9 v15 v16 v17 v18 v19 v27 v31 v32 v33 v34 v38 v42 v44))] [.ref m] 0 0 (fun vv__ ww__ => (vv__ = some (.int (0 : Int32)) ∧ ww__ = [(m, .inr (10, mF R v0 v7 v8 v9 v15 v16 v16 v18 v19 v27 v31 v32 v33 v34 v38 v42 v44))] ∧ (opn = 6)) ∨ (∃ (z16 : Int32), ∃ (z18 : Int32), vv__ = some (.int (1 : Int32)) ∧ ww__ = [(m, .inr (10, mF R v0 v7 v8 v9 v15 z16 v17 z18 v19 v27 v31 v32 v33 v34 v38 v42 v44))] ∧ (opn < 6) ∧ (z16.toInt = ((pos + 1 : Nat) : Int)) ∧ (z18.toInt = ((opn + 1 : Nat) : Int)))) := by
  refine Mg_of (cc := cX11_opens) (maxL := 1) (ret := (some .boolean)) (ls0 := [(0, .ref m)]) RX11 (by decide) rfl rfl rfl (Nat.le_of_ble_eq_true rfl) (fun p__ e__ s__ m__ b__ t__ c__ X hr hn => ?_)
  refine V_aload_n X 0 rfl dX11_opens_0 ?_
  refine V_get (C := RX11) (T := TX11) (N := 50) (ci := 10) (v := .int v18) X in_X11_opens_X11 0 rfl rfl 18 (by decide) (List.mem_of_getElem? (i := 1) rfl) rfl rfl dX11_opens_1 ?_
  refine V_bipush (v := (6 : Int32)) X (by decide) dX11_opens_4 ?_
  refine V_icmp_ne X tv18 (show (6 : Int32).toInt = 6 from by decide) 15 dX11_opens_6 (by decide) (fun c_6 => ?_) (fun c_6 => ?_)
  · refine V_aload_n X 0 rfl dX11_opens_15 ?_
    refine V_dup X rfl dX11_opens_16 ?_
    refine V_get (C := RX11) (T := TX11) (N := 50) (ci := 10) (v := .int v18) X in_X11_opens_X11 0 rfl rfl 18 (by decide) (List.mem_of_getElem? (i := 1) rfl) rfl rfl dX11_opens_17 ?_
    refine V_iconst (v := (1 : Int32)) X (by decide) dX11_opens_20 ?_
    refine V_iaddZ X tv18 (show (1 : Int32).toInt = 1 from by decide) (by omega) (by omega) dX11_opens_21 (fun x_1 ex_1 tx_1 => ?_)
    have tx_1 : x_1.toInt = (((opn + 1) : Nat) : Int) := by omega
    refine V_put (C := RX11) (T := TX11) (N := 50) (ci := 10) (v := .int x_1) (ty := tyX11 18) (ws' := [(m, .inr (10, mF R v0 v7 v8 v9 v15 v16 v17 x_1 v19 v27 v31 v32 v33 v34 v38 v42 v44))]) X in_X11_opens_X11 0 rfl rfl 18 (by decide) (List.mem_of_getElem? (i := 1) rfl) rfl tyX11 tyX11_ok nmX11 rfl (tyX11_ok 18 (by decide)) rfl rfl (Nat.le_of_ble_eq_true rfl) rfl dX11_opens_22 ?_
    refine V_aload_n X 0 rfl dX11_opens_25 ?_
    refine V_dup X rfl dX11_opens_26 ?_
    refine V_get (C := RX11) (T := TX11) (N := 50) (ci := 10) (v := .int v16) X in_X11_opens_X11 0 rfl rfl 16 (by decide) (List.mem_of_getElem? (i := 2) rfl) rfl rfl dX11_opens_27 ?_
    refine V_iconst (v := (1 : Int32)) X (by decide) dX11_opens_30 ?_
    refine V_iaddZ X tv16 (show (1 : Int32).toInt = 1 from by decide) (by omega) (by omega) dX11_opens_31 (fun x_2 ex_2 tx_2 => ?_)
    have tx_2 : x_2.toInt = (((pos + 1) : Nat) : Int) := by omega
    refine V_put (C := RX11) (T := TX11) (N := 50) (ci := 10) (v := .int x_2) (ty := tyX11 16) (ws' := [(m, .inr (10, mF R v0 v7 v8 v9 v15 x_2 v17 x_1 v19 v27 v31 v32 v33 v34 v38 v42 v44))]) X in_X11_opens_X11 0 rfl rfl 16 (by decide) (List.mem_of_getElem? (i := 2) rfl) rfl tyX11 tyX11_ok nmX11 rfl (tyX11_ok 16 (by decide)) rfl rfl (Nat.le_of_ble_eq_true rfl) rfl dX11_opens_32 ?_
    refine V_iconst (v := (1 : Int32)) X (by decide) dX11_opens_35 ?_
    exact V_zret X hr rfl dX11_opens_36 (Or.inr (⟨x_2, x_1, rfl, rfl, (by omega), (by omega), (by omega)⟩))
  · refine V_aload_n X 0 rfl dX11_opens_9 ?_
    refine V_callV (C := RX11) (wr := []) (st := []) X (c_X11_faulty l D Y m R v0 v7 v8 v9 v15 v16 v17 v18 v19 v27 v31 v32 v33 v34 v38 v42 v44 tv17) 0 gX11_opens_X11_faulty rfl (by decide +kernel) ⟨rfl, rfl⟩ ⟨Nat.le_of_ble_eq_true rfl, Nat.le_of_ble_eq_true rfl⟩ [0] [] rfl rfl rfl rfl (by decide) (ci := 10) rfl rfl 0 rfl rfl rfl (Nat.le_of_ble_eq_true rfl) ⟨Nat.le_of_ble_eq_true rfl, Nat.le_of_ble_eq_true rfl⟩ dX11_opens_10 (fun v_10 w_10 h_10 => ?_)
    obtain ⟨rfl, rfl⟩ := h_10
    refine V_to (pc' := 13) (ls' := [(0, .ref m)]) (st' := []) (ws' := [(m, .inr (10, mF R v0 v7 v8 v9 v15 v16 v16 v18 v19 v27 v31 v32 v33 v34 v38 v42 v44))]) ?_ rfl rfl rfl rfl
    refine V_iconst (v := (0 : Int32)) X (by decide) dX11_opens_13 ?_
    exact V_zret X hr rfl dX11_opens_14 (Or.inl ⟨rfl, rfl, (by omega)⟩)

theorem in_X11_figure_X11 : ∀ w ∈ wsX110, w ∈ wsX11_figure := fun w h => List.mem_cons_of_mem _ (List.mem_append_right _ h)
set_option maxHeartbeats 4000000 in
set_option maxRecDepth 100000 in
theorem c_X11_figure (l : Launch) (D : va_G) (Y : Nat → ClassId) (m : Nat) (R : Nat → Nat) (v0 : Int32) (v7 : Int32) (v8 : Int32) (v9 : Int32) (v15 : Int32) (v16 : Int32) (v17 : Int32) (v18 : Int32) (v19 : Int32) (v27 : Int32) (v31 : Int32) (v32 : Int32) (v33 : Int32) (v34 : Int32) (v38 : Int32) (v42 : Int32) (v44 : Int32) (a14 : Nat → Int32) (a20 : Nat → Int32) (a21 : Nat → Int32) (L : Nat) (c : Nat → Int) (pos : Nat) (lo20 : Nat → Int32) (lo21 : Nat → Int32) (t0 : List Tok) (opn : Nat) (tv15 : v15.toInt = ((L : Nat) : Int)) (tv16 : v16.toInt = ((pos : Nat) : Int)) (hL : L ≤ 120) (hpL : pos ≤ L) (hCH : MCHR a14 L c) (tv17 : v17.toInt = (-1)) (hMC : MC lo20 lo21 a20 a21 v19 t0) (tv18 : v18.toInt = ((opn : Nat) : Int)) (htp : t0.length ≤ pos) (hnn : c pos < 0 ∨ 0 ≤ c pos) : Mg l yX11_figure wsX11_figure ({ frames := 1, cells := 0, slots := 0, locals := 22 }) D Y [(m, .inr (10, mF R v0 v7 v8 v9 v15 v16 v17 v18 v19 v27 v31 v32 v33 v34 v38 v42 v44)), ((R 14), .inl (Y 2, 120, .inl a14)), ((R 20), .inl (Y 2, 260, .inl a20)), ((R 21), .inl (Y 0, 260, .inl a21))] [.ref m] 0 0 (fun vv__ ww__ => (∃ (q : Nat), ∃ (ts : List Tok), ∃ (z16 : Int32), ∃ (z19 : Int32), ∃ (b20 : Nat → Int32), ∃ (b21 : Nat → Int32), vv__ = none ∧ ww__ = [(m, .inr (10, mF R v0 v7 v8 v9 v15 z16 v17 v18 z19 v27 v31 v32 v33 v34 v38 v42 v44)), ((R 14), .inl (Y 2, 120, .inl a14)), ((R 20), .inl (Y 2, 260, .inl b20)), ((R 21), .inl (Y 0, 260, .inl b21))] ∧ (z16.toInt = ((q : Nat) : Int)) ∧ (pFg c pos = (q, some ts)) ∧ (pos + ts.length ≤ q ∧ q ≤ L) ∧ (MC lo20 lo21 b20 b21 z19 (t0 ++ ts.map mkT))) ∨ (∃ (q : Nat), ∃ (l2 : Nat), ∃ (z16 : Int32), ∃ (z17 : Int32), ∃ (z18 : Int32), ∃ (z19 : Int32), ∃ (b20 : Nat → Int32), ∃ (b21 : Nat → Int32), vv__ = none ∧ ww__ = [(m, .inr (10, mF R v0 v7 v8 v9 v15 z16 z17 z18 z19 v27 v31 v32 v33 v34 v38 v42 v44)), ((R 14), .inl (Y 2, 120, .inl a14)), ((R 20), .inl (Y 2, 260, .inl b20)), ((R 21), .inl (Y 0, 260, .inl b21))] ∧ (z16.toInt = ((q : Nat) : Int)) ∧ (z17.toInt = ((q : Nat) : Int)) ∧ (pFg c pos = (q, none)) ∧ (q ≤ L) ∧ (z19.toInt = ((l2 : Nat) : Int)) ∧ (l2 + pos ≤ t0.length + q + 1) ∧ (LO lo20 lo21 b20 b21))) := by
  refine Mg_of (cc := cX11_figure) (maxL := 3) (ret := none) (ls0 := [(0, .ref m)]) RX11 (by decide) rfl rfl rfl (Nat.le_of_ble_eq_true rfl) (fun p__ e__ s__ m__ b__ t__ c__ X hr hn => ?_)
  refine V_iconst (v := (0 : Int32)) X (by decide) dX11_figure_0 ?_
  refine V_istore_n (ls' := [(1, .int (0 : Int32)), (0, .ref m)]) X (by decide) rfl dX11_figure_1 ?_
  refine V_iconst (v := (0 : Int32)) X (by decide) dX11_figure_2 ?_
  refine V_istore_n (ls' := [(2, .int (0 : Int32)), (1, .int (0 : Int32)), (0, .ref m)]) X (by decide) rfl dX11_figure_3 ?_
  refine V_ls (ls' := [(0, .ref m), (1, .int (0 : Int32)), (2, .int (0 : Int32))]) [2, 1, 0] rfl ?_
  refine V_to (V_ind6 (fun (i2 : Int32) (i : Nat) (u1 : Int32) (v : Int) (p3 : Int32) (q : Nat) => (i2.toInt = ((i : Nat) : Int)) ∧ (u1.toInt = v) ∧ (p3.toInt = ((q : Nat) : Int)) ∧ (i ≤ 4) ∧ (pDg c (4 - i) q v = (pDg c 4 pos 0)) ∧ (0 ≤ v ∧ v ≤ 9999 ∧ (i ≤ 3 → v ≤ 999) ∧ (i ≤ 2 → v ≤ 99) ∧ (i ≤ 1 → v ≤ 9) ∧ (i = 0 → v = 0)) ∧ (pos ≤ q ∧ q ≤ L ∧ (i = 0 → q = pos) ∧ (0 < i → pos + 1 ≤ q ∧ 48 ≤ c pos ∧ c pos ≤ 57))) (fun (i2 : Int32) (i : Nat) (u1 : Int32) (v : Int) (p3 : Int32) (q : Nat) => 4 - i) (fun (i2 : Int32) (i : Nat) (u1 : Int32) (v : Int) (p3 : Int32) (q : Nat) => [(0, .ref m), (1, .int u1), (2, .int i2)]) (fun (i2 : Int32) (i : Nat) (u1 : Int32) (v : Int) (p3 : Int32) (q : Nat) => [(m, .inr (10, mF R v0 v7 v8 v9 v15 p3 v17 v18 v19 v27 v31 v32 v33 v34 v38 v42 v44)), ((R 14), .inl (Y 2, 120, .inl a14)), ((R 20), .inl (Y 2, 260, .inl a20)), ((R 21), .inl (Y 0, 260, .inl a21))]) (fun i2 i u1 v p3 q hI_4 ih_4 => ?_) (0 : Int32) 0 (0 : Int32) 0 v16 pos ?_) rfl rfl rfl rfl
  · obtain ⟨ti2, tu1, tp3, hi4, hP, hv, hqb3⟩ := hI_4
    refine V_to (ls' := [(0, .ref m), (1, .int u1), (2, .int i2)]) (ws' := [(m, .inr (10, mF R v0 v7 v8 v9 v15 p3 v17 v18 v19 v27 v31 v32 v33 v34 v38 v42 v44)), ((R 14), .inl (Y 2, 120, .inl a14)), ((R 20), .inl (Y 2, 260, .inl a20)), ((R 21), .inl (Y 0, 260, .inl a21))]) ?_ rfl rfl rfl rfl
    refine V_iload_n X 2 rfl dX11_figure_4 ?_
    refine V_iconst (v := (4 : Int32)) X (by decide) dX11_figure_5 ?_
    refine V_icmp_ge X ti2 (show (4 : Int32).toInt = 4 from by decide) 52 dX11_figure_6 (by decide) (fun c_6 => ?_) (fun c_6 => ?_)
    · have hnd : 4 - i = 0 ∨ ¬ (48 ≤ c q ∧ c q ≤ 57) := Or.inl (by omega)
      have hDx := pDg_x hP hnd
      refine V_iload_n X 2 rfl dX11_figure_52 ?_
      refine V_if_eq X ti2 70 dX11_figure_53 (by decide) (fun c_53 => ?_) (fun c_53 => ?_)
      · have hF : pFg c pos = (q, none) := pFg_0 (by rw [hDx, show v = 0 by omega]) (by omega) (by have h0 : i = 0 → c pos = c q := (fun h => by rw [hqb3.2.2.1 h]); omega)
        refine V_aload_n X 0 rfl dX11_figure_70 ?_
        refine V_callV (C := RX11) (wr := [((R 14), .inl (Y 2, 120, .inl a14)), ((R 20), .inl (Y 2, 260, .inl a20)), ((R 21), .inl (Y 0, 260, .inl a21))]) (st := []) X (c_X11_faulty l D Y m R v0 v7 v8 v9 v15 p3 v17 v18 v19 v27 v31 v32 v33 v34 v38 v42 v44 tv17) 0 gX11_figure_X11_faulty rfl (by decide +kernel) ⟨rfl, rfl⟩ ⟨Nat.le_of_ble_eq_true rfl, Nat.le_of_ble_eq_true rfl⟩ [0] [1, 2, 3] rfl rfl rfl rfl (by decide) (ci := 10) rfl rfl 0 rfl rfl rfl (Nat.le_of_ble_eq_true rfl) ⟨Nat.le_of_ble_eq_true rfl, Nat.le_of_ble_eq_true rfl⟩ dX11_figure_71 (fun v_71 w_71 h_71 => ?_)
        obtain ⟨rfl, rfl⟩ := h_71
        refine V_to (pc' := 74) (ls' := [(0, .ref m), (1, .int u1), (2, .int i2)]) (st' := []) (ws' := [((R 14), .inl (Y 2, 120, .inl a14)), ((R 20), .inl (Y 2, 260, .inl a20)), ((R 21), .inl (Y 0, 260, .inl a21)), (m, .inr (10, mF R v0 v7 v8 v9 v15 p3 p3 v18 v19 v27 v31 v32 v33 v34 v38 v42 v44))]) ?_ rfl rfl rfl rfl
        refine V_aload_n X 0 rfl dX11_figure_74 ?_
        refine V_iconst (v := (1 : Int32)) X (by decide) dX11_figure_75 ?_
        refine V_iload_n X 1 rfl dX11_figure_76 ?_
        refine V_callV (C := RX11) (wr := [((R 14), .inl (Y 2, 120, .inl a14))]) (st := []) X (c_X11_addStepD l D Y m R v0 v7 v8 v9 v15 p3 p3 v18 v19 v27 v31 v32 v33 v34 v38 v42 v44 a20 a21 lo20 lo21 t0.length (1 : Int32) u1 hMC.1 hMC.2.1 (by omega)) 2 gX11_figure_X11_addStep rfl (by decide +kernel) ⟨rfl, rfl⟩ ⟨Nat.le_of_ble_eq_true rfl, Nat.le_of_ble_eq_true rfl⟩ [3, 1, 2] [0] rfl rfl rfl rfl (by decide) (ci := 10) rfl rfl 0 rfl rfl rfl (Nat.le_of_ble_eq_true rfl) ⟨Nat.le_of_ble_eq_true rfl, Nat.le_of_ble_eq_true rfl⟩ dX11_figure_77 (fun v_77 w_77 h_77 => ?_)
        obtain ⟨z19_a, b20_a, b21_a, rfl, rfl, tz19_a, hLO2_a⟩ := h_77
        refine V_to (pc' := 80) (ls' := [(0, .ref m), (1, .int u1), (2, .int i2)]) (st' := []) (ws' := [((R 14), .inl (Y 2, 120, .inl a14)), (m, .inr (10, mF R v0 v7 v8 v9 v15 p3 p3 v18 z19_a v27 v31 v32 v33 v34 v38 v42 v44)), ((R 20), .inl (Y 2, 260, .inl b20_a)), ((R 21), .inl (Y 0, 260, .inl b21_a))]) ?_ rfl rfl rfl rfl
        refine V_ws (ws' := [(m, .inr (10, mF R v0 v7 v8 v9 v15 p3 p3 v18 z19_a v27 v31 v32 v33 v34 v38 v42 v44)), ((R 14), .inl (Y 2, 120, .inl a14)), ((R 20), .inl (Y 2, 260, .inl b20_a)), ((R 21), .inl (Y 0, 260, .inl b21_a))]) [1, 0, 2, 3] rfl rfl rfl ?_
        exact V_vret X hr dX11_figure_80 (Or.inr (⟨q, (t0.length + 1), p3, p3, v18, z19_a, b20_a, b21_a, rfl, rfl, tp3, tp3, hF, hqb3.2.1, tz19_a, (by omega), hLO2_a⟩))
      · have hd0 : 48 ≤ c pos ∧ c pos ≤ 57 := (hqb3.2.2.2 (by omega)).2
        refine V_aload_n X 0 rfl dX11_figure_56 ?_
        refine V_callV (C := RX11) (wr := [((R 20), .inl (Y 2, 260, .inl a20)), ((R 21), .inl (Y 0, 260, .inl a21))]) (st := []) X (c_X11_look l D Y m R v0 v7 v8 v9 v15 p3 v17 v18 v19 v27 v31 v32 v33 v34 v38 v42 v44 a14 L c q tv15 tp3 hL (by omega) hCH) 0 gX11_figure_X11_look rfl (by decide +kernel) ⟨rfl, rfl⟩ ⟨Nat.le_of_ble_eq_true rfl, Nat.le_of_ble_eq_true rfl⟩ [0, 1] [2, 3] rfl rfl rfl rfl (by decide) (ci := 10) rfl rfl 0 rfl rfl rfl (Nat.le_of_ble_eq_true rfl) ⟨Nat.le_of_ble_eq_true rfl, Nat.le_of_ble_eq_true rfl⟩ dX11_figure_57 (fun v_57 w_57 h_57 => ?_)
        obtain ⟨r_9, rfl, rfl, hhpk_10⟩ := h_57
        refine V_to (pc' := 60) (ls' := [(0, .ref m), (1, .int u1), (2, .int i2)]) (st' := [.int r_9]) (ws' := [((R 20), .inl (Y 2, 260, .inl a20)), ((R 21), .inl (Y 0, 260, .inl a21)), (m, .inr (10, mF R v0 v7 v8 v9 v15 p3 v17 v18 v19 v27 v31 v32 v33 v34 v38 v42 v44)), ((R 14), .inl (Y 2, 120, .inl a14))]) ?_ rfl rfl rfl rfl
        refine V_bipush (v := (48 : Int32)) X (by decide) dX11_figure_60 ?_
        refine V_bipush (v := (57 : Int32)) X (by decide) dX11_figure_62 ?_
        refine V_callS (wr := [((R 20), .inl (Y 2, 260, .inl a20)), ((R 21), .inl (Y 0, 260, .inl a21)), (m, .inr (10, mF R v0 v7 v8 v9 v15 p3 v17 v18 v19 v27 v31 v32 v33 v34 v38 v42 v44)), ((R 14), .inl (Y 2, 120, .inl a14))]) (st := []) X (c_X11_in l D Y r_9 (48 : Int32) (57 : Int32)) 3 gX11_figure_X11_in rfl (by decide +kernel) ⟨rfl, rfl⟩ ⟨Nat.le_of_ble_eq_true rfl, Nat.le_of_ble_eq_true rfl⟩ [] [0, 1, 2, 3] rfl rfl rfl rfl (by decide) rfl rfl (Nat.le_of_ble_eq_true rfl) ⟨Nat.le_of_ble_eq_true rfl, Nat.le_of_ble_eq_true rfl⟩ dX11_figure_64 (fun v_64 w_64 h_64 => ?_)
        rcases h_64 with ⟨rfl, rfl, hhy_12⟩ | ⟨rfl, rfl, hhn_13⟩
        · refine V_to (pc' := 67) (ls' := [(0, .ref m), (1, .int u1), (2, .int i2)]) (st' := [.int (1 : Int32)]) (ws' := [((R 20), .inl (Y 2, 260, .inl a20)), ((R 21), .inl (Y 0, 260, .inl a21)), (m, .inr (10, mF R v0 v7 v8 v9 v15 p3 v17 v18 v19 v27 v31 v32 v33 v34 v38 v42 v44)), ((R 14), .inl (Y 2, 120, .inl a14))]) ?_ rfl rfl rfl rfl
          have hc_48 : (48 : Int32).toInt = 48 := by decide
          have hc_57 : (57 : Int32).toInt = 57 := by decide
          refine V_if_eq X (show (1 : Int32).toInt = 1 from by decide) 74 dX11_figure_67 (by decide) (fun c_67 => absurd c_67 (by decide)) (fun _ => ?_)
          have hF : pFg c pos = (q, none) := (show (if _ then _ else _) = _ by rw [if_pos hd0]; exact pFig_y (by rw [hDx]) (by omega))
          refine V_aload_n X 0 rfl dX11_figure_70 ?_
          refine V_callV (C := RX11) (wr := [((R 20), .inl (Y 2, 260, .inl a20)), ((R 21), .inl (Y 0, 260, .inl a21)), ((R 14), .inl (Y 2, 120, .inl a14))]) (st := []) X (c_X11_faulty l D Y m R v0 v7 v8 v9 v15 p3 v17 v18 v19 v27 v31 v32 v33 v34 v38 v42 v44 tv17) 0 gX11_figure_X11_faulty rfl (by decide +kernel) ⟨rfl, rfl⟩ ⟨Nat.le_of_ble_eq_true rfl, Nat.le_of_ble_eq_true rfl⟩ [2] [0, 1, 3] rfl rfl rfl rfl (by decide) (ci := 10) rfl rfl 0 rfl rfl rfl (Nat.le_of_ble_eq_true rfl) ⟨Nat.le_of_ble_eq_true rfl, Nat.le_of_ble_eq_true rfl⟩ dX11_figure_71 (fun v_71 w_71 h_71 => ?_)
          obtain ⟨rfl, rfl⟩ := h_71
          refine V_to (pc' := 74) (ls' := [(0, .ref m), (1, .int u1), (2, .int i2)]) (st' := []) (ws' := [((R 20), .inl (Y 2, 260, .inl a20)), ((R 21), .inl (Y 0, 260, .inl a21)), ((R 14), .inl (Y 2, 120, .inl a14)), (m, .inr (10, mF R v0 v7 v8 v9 v15 p3 p3 v18 v19 v27 v31 v32 v33 v34 v38 v42 v44))]) ?_ rfl rfl rfl rfl
          refine V_aload_n X 0 rfl dX11_figure_74 ?_
          refine V_iconst (v := (1 : Int32)) X (by decide) dX11_figure_75 ?_
          refine V_iload_n X 1 rfl dX11_figure_76 ?_
          refine V_callV (C := RX11) (wr := [((R 14), .inl (Y 2, 120, .inl a14))]) (st := []) X (c_X11_addStepD l D Y m R v0 v7 v8 v9 v15 p3 p3 v18 v19 v27 v31 v32 v33 v34 v38 v42 v44 a20 a21 lo20 lo21 t0.length (1 : Int32) u1 hMC.1 hMC.2.1 (by omega)) 2 gX11_figure_X11_addStep rfl (by decide +kernel) ⟨rfl, rfl⟩ ⟨Nat.le_of_ble_eq_true rfl, Nat.le_of_ble_eq_true rfl⟩ [3, 0, 1] [2] rfl rfl rfl rfl (by decide) (ci := 10) rfl rfl 0 rfl rfl rfl (Nat.le_of_ble_eq_true rfl) ⟨Nat.le_of_ble_eq_true rfl, Nat.le_of_ble_eq_true rfl⟩ dX11_figure_77 (fun v_77 w_77 h_77 => ?_)
          obtain ⟨z19_a, b20_a, b21_a, rfl, rfl, tz19_a, hLO2_a⟩ := h_77
          refine V_to (pc' := 80) (ls' := [(0, .ref m), (1, .int u1), (2, .int i2)]) (st' := []) (ws' := [((R 14), .inl (Y 2, 120, .inl a14)), (m, .inr (10, mF R v0 v7 v8 v9 v15 p3 p3 v18 z19_a v27 v31 v32 v33 v34 v38 v42 v44)), ((R 20), .inl (Y 2, 260, .inl b20_a)), ((R 21), .inl (Y 0, 260, .inl b21_a))]) ?_ rfl rfl rfl rfl
          refine V_ws (ws' := [(m, .inr (10, mF R v0 v7 v8 v9 v15 p3 p3 v18 z19_a v27 v31 v32 v33 v34 v38 v42 v44)), ((R 14), .inl (Y 2, 120, .inl a14)), ((R 20), .inl (Y 2, 260, .inl b20_a)), ((R 21), .inl (Y 0, 260, .inl b21_a))]) [1, 0, 2, 3] rfl rfl rfl ?_
          exact V_vret X hr dX11_figure_80 (Or.inr (⟨q, (t0.length + 1), p3, p3, v18, z19_a, b20_a, b21_a, rfl, rfl, tp3, tp3, hF, hqb3.2.1, tz19_a, (by omega), hLO2_a⟩))
        · refine V_to (pc' := 67) (ls' := [(0, .ref m), (1, .int u1), (2, .int i2)]) (st' := [.int (0 : Int32)]) (ws' := [((R 20), .inl (Y 2, 260, .inl a20)), ((R 21), .inl (Y 0, 260, .inl a21)), (m, .inr (10, mF R v0 v7 v8 v9 v15 p3 v17 v18 v19 v27 v31 v32 v33 v34 v38 v42 v44)), ((R 14), .inl (Y 2, 120, .inl a14))]) ?_ rfl rfl rfl rfl
          have hc_48 : (48 : Int32).toInt = 48 := by decide
          have hc_57 : (57 : Int32).toInt = 57 := by decide
          refine V_if_eq X (show (0 : Int32).toInt = 0 from by decide) 74 dX11_figure_67 (by decide) (fun _ => ?_) (fun c_67 => absurd c_67 (by decide))
          have hF : pFg c pos = (q, some [(48, v)]) := (show (if _ then _ else _) = _ by rw [if_pos hd0, pFig_n (q := q) (by rw [hDx]) (by omega), hDx])
          refine V_aload_n X 0 rfl dX11_figure_74 ?_
          refine V_iconst (v := (1 : Int32)) X (by decide) dX11_figure_75 ?_
          refine V_iload_n X 1 rfl dX11_figure_76 ?_
          refine V_callV (C := RX11) (wr := [((R 14), .inl (Y 2, 120, .inl a14))]) (st := []) X (c_X11_addStep l D Y m R v0 v7 v8 v9 v15 p3 v17 v18 v19 v27 v31 v32 v33 v34 v38 v42 v44 a20 a21 lo20 lo21 t0 (1 : Int32) u1 hMC (by omega) (by decide)) 2 gX11_figure_X11_addStep rfl (by decide +kernel) ⟨rfl, rfl⟩ ⟨Nat.le_of_ble_eq_true rfl, Nat.le_of_ble_eq_true rfl⟩ [2, 0, 1] [3] rfl rfl rfl rfl (by decide) (ci := 10) rfl rfl 0 rfl rfl rfl (Nat.le_of_ble_eq_true rfl) ⟨Nat.le_of_ble_eq_true rfl, Nat.le_of_ble_eq_true rfl⟩ dX11_figure_77 (fun v_77 w_77 h_77 => ?_)
          obtain ⟨z19_a, b20_a, b21_a, rfl, rfl, hMC2_a⟩ := h_77
          refine V_to (pc' := 80) (ls' := [(0, .ref m), (1, .int u1), (2, .int i2)]) (st' := []) (ws' := [((R 14), .inl (Y 2, 120, .inl a14)), (m, .inr (10, mF R v0 v7 v8 v9 v15 p3 v17 v18 z19_a v27 v31 v32 v33 v34 v38 v42 v44)), ((R 20), .inl (Y 2, 260, .inl b20_a)), ((R 21), .inl (Y 0, 260, .inl b21_a))]) ?_ rfl rfl rfl rfl
          have hc_1 : (1 : Int32).toInt = 1 := by decide
          refine V_ws (ws' := [(m, .inr (10, mF R v0 v7 v8 v9 v15 p3 v17 v18 z19_a v27 v31 v32 v33 v34 v38 v42 v44)), ((R 14), .inl (Y 2, 120, .inl a14)), ((R 20), .inl (Y 2, 260, .inl b20_a)), ((R 21), .inl (Y 0, 260, .inl b21_a))]) [1, 0, 2, 3] rfl rfl rfl ?_
          exact V_vret X hr dX11_figure_80 (Or.inl ⟨q, [(48, v)], p3, z19_a, b20_a, b21_a, rfl, rfl, tp3, hF, ⟨by show pos + 1 ≤ q; omega, hqb3.2.1⟩, (by have h9 := hMC2_a; rw [show (1 : Int32).toInt = 1 from by decide, tu1] at h9; exact h9)⟩)
    · refine V_aload_n X 0 rfl dX11_figure_9 ?_
      refine V_callV (C := RX11) (wr := [((R 20), .inl (Y 2, 260, .inl a20)), ((R 21), .inl (Y 0, 260, .inl a21))]) (st := []) X (c_X11_look l D Y m R v0 v7 v8 v9 v15 p3 v17 v18 v19 v27 v31 v32 v33 v34 v38 v42 v44 a14 L c q tv15 tp3 hL (by omega) hCH) 0 gX11_figure_X11_look rfl (by decide +kernel) ⟨rfl, rfl⟩ ⟨Nat.le_of_ble_eq_true rfl, Nat.le_of_ble_eq_true rfl⟩ [0, 1] [2, 3] rfl rfl rfl rfl (by decide) (ci := 10) rfl rfl 0 rfl rfl rfl (Nat.le_of_ble_eq_true rfl) ⟨Nat.le_of_ble_eq_true rfl, Nat.le_of_ble_eq_true rfl⟩ dX11_figure_10 (fun v_10 w_10 h_10 => ?_)
      obtain ⟨r_27, rfl, rfl, hhpk_28⟩ := h_10
      refine V_to (pc' := 13) (ls' := [(0, .ref m), (1, .int u1), (2, .int i2)]) (st' := [.int r_27]) (ws' := [((R 20), .inl (Y 2, 260, .inl a20)), ((R 21), .inl (Y 0, 260, .inl a21)), (m, .inr (10, mF R v0 v7 v8 v9 v15 p3 v17 v18 v19 v27 v31 v32 v33 v34 v38 v42 v44)), ((R 14), .inl (Y 2, 120, .inl a14))]) ?_ rfl rfl rfl rfl
      refine V_bipush (v := (48 : Int32)) X (by decide) dX11_figure_13 ?_
      refine V_bipush (v := (57 : Int32)) X (by decide) dX11_figure_15 ?_
      refine V_callS (wr := [((R 20), .inl (Y 2, 260, .inl a20)), ((R 21), .inl (Y 0, 260, .inl a21)), (m, .inr (10, mF R v0 v7 v8 v9 v15 p3 v17 v18 v19 v27 v31 v32 v33 v34 v38 v42 v44)), ((R 14), .inl (Y 2, 120, .inl a14))]) (st := []) X (c_X11_in l D Y r_27 (48 : Int32) (57 : Int32)) 3 gX11_figure_X11_in rfl (by decide +kernel) ⟨rfl, rfl⟩ ⟨Nat.le_of_ble_eq_true rfl, Nat.le_of_ble_eq_true rfl⟩ [] [0, 1, 2, 3] rfl rfl rfl rfl (by decide) rfl rfl (Nat.le_of_ble_eq_true rfl) ⟨Nat.le_of_ble_eq_true rfl, Nat.le_of_ble_eq_true rfl⟩ dX11_figure_17 (fun v_17 w_17 h_17 => ?_)
      rcases h_17 with ⟨rfl, rfl, hhy_30⟩ | ⟨rfl, rfl, hhn_31⟩
      · refine V_to (pc' := 20) (ls' := [(0, .ref m), (1, .int u1), (2, .int i2)]) (st' := [.int (1 : Int32)]) (ws' := [((R 20), .inl (Y 2, 260, .inl a20)), ((R 21), .inl (Y 0, 260, .inl a21)), (m, .inr (10, mF R v0 v7 v8 v9 v15 p3 v17 v18 v19 v27 v31 v32 v33 v34 v38 v42 v44)), ((R 14), .inl (Y 2, 120, .inl a14))]) ?_ rfl rfl rfl rfl
        have hc_48 : (48 : Int32).toInt = 48 := by decide
        have hc_57 : (57 : Int32).toInt = 57 := by decide
        refine V_if_eq X (show (1 : Int32).toInt = 1 from by decide) 52 dX11_figure_20 (by decide) (fun c_20 => absurd c_20 (by decide)) (fun _ => ?_)
        have hdq : 48 ≤ c q ∧ c q ≤ 57 := by omega
        have hqlt := MCHR_lt hCH (show c q ≠ -1 by omega)
        refine V_bipush (v := (10 : Int32)) X (by decide) dX11_figure_23 ?_
        refine V_iload_n X 1 rfl dX11_figure_25 ?_
        refine V_imulZ X (show (10 : Int32).toInt = 10 from by decide) tu1 (by omega) (by omega) dX11_figure_26 (fun x_32 ex_32 tx_32 => ?_)
        refine V_aload_n X 0 rfl dX11_figure_27 ?_
        refine V_callV (C := RX11) (wr := [((R 20), .inl (Y 2, 260, .inl a20)), ((R 21), .inl (Y 0, 260, .inl a21))]) (st := [.int x_32]) X (c_X11_look l D Y m R v0 v7 v8 v9 v15 p3 v17 v18 v19 v27 v31 v32 v33 v34 v38 v42 v44 a14 L c q tv15 tp3 hL (by omega) hCH) 0 gX11_figure_X11_look rfl (by decide +kernel) ⟨rfl, rfl⟩ ⟨Nat.le_of_ble_eq_true rfl, Nat.le_of_ble_eq_true rfl⟩ [2, 3] [0, 1] rfl rfl rfl rfl (by decide) (ci := 10) rfl rfl 0 rfl rfl rfl (Nat.le_of_ble_eq_true rfl) ⟨Nat.le_of_ble_eq_true rfl, Nat.le_of_ble_eq_true rfl⟩ dX11_figure_28 (fun v_28 w_28 h_28 => ?_)
        obtain ⟨r_34, rfl, rfl, hhpk_35⟩ := h_28
        refine V_to (pc' := 31) (ls' := [(0, .ref m), (1, .int u1), (2, .int i2)]) (st' := [.int r_34, .int x_32]) (ws' := [((R 20), .inl (Y 2, 260, .inl a20)), ((R 21), .inl (Y 0, 260, .inl a21)), (m, .inr (10, mF R v0 v7 v8 v9 v15 p3 v17 v18 v19 v27 v31 v32 v33 v34 v38 v42 v44)), ((R 14), .inl (Y 2, 120, .inl a14))]) ?_ rfl rfl rfl rfl
        have hk3 : r_34.toInt = c q := by omega
        refine V_iaddZ X rfl rfl (by omega) (by omega) dX11_figure_31 (fun x_36 ex_36 tx_36 => ?_)
        refine V_bipush (v := (48 : Int32)) X (by decide) dX11_figure_32 ?_
        refine V_isubZ X rfl (show (48 : Int32).toInt = 48 from by decide) (by omega) (by omega) dX11_figure_34 (fun x_37 ex_37 tx_37 => ?_)
        refine V_istore_n (ls' := [(1, .int x_37), (0, .ref m), (2, .int i2)]) X (by decide) rfl dX11_figure_35 ?_
        refine V_iincZ X (fun vv_ => [(2, .int vv_), (1, .int x_37), (0, .ref m)]) ti2 (by omega) (by omega) (by decide) 2 rfl (by decide) (fun _ => rfl) dX11_figure_36 (fun x_38 ex_38 tx_38 => ?_)
        have tx_38 : x_38.toInt = (((i + 1) : Nat) : Int) := by omega
        refine V_aload_n X 2 rfl dX11_figure_39 ?_
        refine V_dup X rfl dX11_figure_40 ?_
        refine V_get (C := RX11) (T := TX11) (N := 50) (ci := 10) (v := .int p3) X in_X11_figure_X11 2 rfl rfl 16 (by decide) (List.mem_of_getElem? (i := 1) rfl) rfl rfl dX11_figure_41 ?_
        refine V_iconst (v := (1 : Int32)) X (by decide) dX11_figure_44 ?_
        refine V_iaddZ X tp3 (show (1 : Int32).toInt = 1 from by decide) (by omega) (by omega) dX11_figure_45 (fun x_39 ex_39 tx_39 => ?_)
        have tx_39 : x_39.toInt = (((q + 1) : Nat) : Int) := by omega
        refine V_put (C := RX11) (T := TX11) (N := 50) (ci := 10) (v := .int x_39) (ty := tyX11 16) (ws' := [((R 20), .inl (Y 2, 260, .inl a20)), ((R 21), .inl (Y 0, 260, .inl a21)), (m, .inr (10, mF R v0 v7 v8 v9 v15 x_39 v17 v18 v19 v27 v31 v32 v33 v34 v38 v42 v44)), ((R 14), .inl (Y 2, 120, .inl a14))]) X in_X11_figure_X11 2 rfl rfl 16 (by decide) (List.mem_of_getElem? (i := 1) rfl) rfl tyX11 tyX11_ok nmX11 rfl (tyX11_ok 16 (by decide)) rfl rfl (Nat.le_of_ble_eq_true rfl) rfl dX11_figure_46 ?_
        refine V_goto X 4 (by decide) dX11_figure_49 ?_
        refine V_ls (ls' := [(0, .ref m), (1, .int x_37), (2, .int x_38)]) [2, 1, 0] rfl ?_
        refine V_ws (ws' := [(m, .inr (10, mF R v0 v7 v8 v9 v15 x_39 v17 v18 v19 v27 v31 v32 v33 v34 v38 v42 v44)), ((R 14), .inl (Y 2, 120, .inl a14)), ((R 20), .inl (Y 2, 260, .inl a20)), ((R 21), .inl (Y 0, 260, .inl a21))]) [2, 3, 0, 1] rfl rfl rfl ?_
        exact V_to (ih_4 x_38 (i + 1) x_37 (v * 10 + c q - 48) x_39 (q + 1) ⟨(by omega), (by omega), (by omega), (by omega), (by rw [show 4 - (i + 1) = (4 - i) - 1 by omega]; exact pDg_s hP (by omega) hdq), (by omega), (by have h0 : i = 0 → c pos = c q := (fun h => by rw [hqb3.2.2.1 h]); omega)⟩ (by omega)) rfl rfl rfl rfl
      · refine V_to (pc' := 20) (ls' := [(0, .ref m), (1, .int u1), (2, .int i2)]) (st' := [.int (0 : Int32)]) (ws' := [((R 20), .inl (Y 2, 260, .inl a20)), ((R 21), .inl (Y 0, 260, .inl a21)), (m, .inr (10, mF R v0 v7 v8 v9 v15 p3 v17 v18 v19 v27 v31 v32 v33 v34 v38 v42 v44)), ((R 14), .inl (Y 2, 120, .inl a14))]) ?_ rfl rfl rfl rfl
        have hc_48 : (48 : Int32).toInt = 48 := by decide
        have hc_57 : (57 : Int32).toInt = 57 := by decide
        refine V_if_eq X (show (0 : Int32).toInt = 0 from by decide) 52 dX11_figure_20 (by decide) (fun _ => ?_) (fun c_20 => absurd c_20 (by decide))
        have hnd : 4 - i = 0 ∨ ¬ (48 ≤ c q ∧ c q ≤ 57) := Or.inr (by omega)
        have hDx := pDg_x hP hnd
        refine V_iload_n X 2 rfl dX11_figure_52 ?_
        refine V_if_eq X ti2 70 dX11_figure_53 (by decide) (fun c_53 => ?_) (fun c_53 => ?_)
        · have hF : pFg c pos = (q, none) := pFg_0 (by rw [hDx, show v = 0 by omega]) (by omega) (by have h0 : i = 0 → c pos = c q := (fun h => by rw [hqb3.2.2.1 h]); omega)
          refine V_aload_n X 0 rfl dX11_figure_70 ?_
          refine V_callV (C := RX11) (wr := [((R 20), .inl (Y 2, 260, .inl a20)), ((R 21), .inl (Y 0, 260, .inl a21)), ((R 14), .inl (Y 2, 120, .inl a14))]) (st := []) X (c_X11_faulty l D Y m R v0 v7 v8 v9 v15 p3 v17 v18 v19 v27 v31 v32 v33 v34 v38 v42 v44 tv17) 0 gX11_figure_X11_faulty rfl (by decide +kernel) ⟨rfl, rfl⟩ ⟨Nat.le_of_ble_eq_true rfl, Nat.le_of_ble_eq_true rfl⟩ [2] [0, 1, 3] rfl rfl rfl rfl (by decide) (ci := 10) rfl rfl 0 rfl rfl rfl (Nat.le_of_ble_eq_true rfl) ⟨Nat.le_of_ble_eq_true rfl, Nat.le_of_ble_eq_true rfl⟩ dX11_figure_71 (fun v_71 w_71 h_71 => ?_)
          obtain ⟨rfl, rfl⟩ := h_71
          refine V_to (pc' := 74) (ls' := [(0, .ref m), (1, .int u1), (2, .int i2)]) (st' := []) (ws' := [((R 20), .inl (Y 2, 260, .inl a20)), ((R 21), .inl (Y 0, 260, .inl a21)), ((R 14), .inl (Y 2, 120, .inl a14)), (m, .inr (10, mF R v0 v7 v8 v9 v15 p3 p3 v18 v19 v27 v31 v32 v33 v34 v38 v42 v44))]) ?_ rfl rfl rfl rfl
          refine V_aload_n X 0 rfl dX11_figure_74 ?_
          refine V_iconst (v := (1 : Int32)) X (by decide) dX11_figure_75 ?_
          refine V_iload_n X 1 rfl dX11_figure_76 ?_
          refine V_callV (C := RX11) (wr := [((R 14), .inl (Y 2, 120, .inl a14))]) (st := []) X (c_X11_addStepD l D Y m R v0 v7 v8 v9 v15 p3 p3 v18 v19 v27 v31 v32 v33 v34 v38 v42 v44 a20 a21 lo20 lo21 t0.length (1 : Int32) u1 hMC.1 hMC.2.1 (by omega)) 2 gX11_figure_X11_addStep rfl (by decide +kernel) ⟨rfl, rfl⟩ ⟨Nat.le_of_ble_eq_true rfl, Nat.le_of_ble_eq_true rfl⟩ [3, 0, 1] [2] rfl rfl rfl rfl (by decide) (ci := 10) rfl rfl 0 rfl rfl rfl (Nat.le_of_ble_eq_true rfl) ⟨Nat.le_of_ble_eq_true rfl, Nat.le_of_ble_eq_true rfl⟩ dX11_figure_77 (fun v_77 w_77 h_77 => ?_)
          obtain ⟨z19_a, b20_a, b21_a, rfl, rfl, tz19_a, hLO2_a⟩ := h_77
          refine V_to (pc' := 80) (ls' := [(0, .ref m), (1, .int u1), (2, .int i2)]) (st' := []) (ws' := [((R 14), .inl (Y 2, 120, .inl a14)), (m, .inr (10, mF R v0 v7 v8 v9 v15 p3 p3 v18 z19_a v27 v31 v32 v33 v34 v38 v42 v44)), ((R 20), .inl (Y 2, 260, .inl b20_a)), ((R 21), .inl (Y 0, 260, .inl b21_a))]) ?_ rfl rfl rfl rfl
          refine V_ws (ws' := [(m, .inr (10, mF R v0 v7 v8 v9 v15 p3 p3 v18 z19_a v27 v31 v32 v33 v34 v38 v42 v44)), ((R 14), .inl (Y 2, 120, .inl a14)), ((R 20), .inl (Y 2, 260, .inl b20_a)), ((R 21), .inl (Y 0, 260, .inl b21_a))]) [1, 0, 2, 3] rfl rfl rfl ?_
          exact V_vret X hr dX11_figure_80 (Or.inr (⟨q, (t0.length + 1), p3, p3, v18, z19_a, b20_a, b21_a, rfl, rfl, tp3, tp3, hF, hqb3.2.1, tz19_a, (by omega), hLO2_a⟩))
        · have hd0 : 48 ≤ c pos ∧ c pos ≤ 57 := (hqb3.2.2.2 (by omega)).2
          refine V_aload_n X 0 rfl dX11_figure_56 ?_
          refine V_callV (C := RX11) (wr := [((R 20), .inl (Y 2, 260, .inl a20)), ((R 21), .inl (Y 0, 260, .inl a21))]) (st := []) X (c_X11_look l D Y m R v0 v7 v8 v9 v15 p3 v17 v18 v19 v27 v31 v32 v33 v34 v38 v42 v44 a14 L c q tv15 tp3 hL (by omega) hCH) 0 gX11_figure_X11_look rfl (by decide +kernel) ⟨rfl, rfl⟩ ⟨Nat.le_of_ble_eq_true rfl, Nat.le_of_ble_eq_true rfl⟩ [2, 3] [0, 1] rfl rfl rfl rfl (by decide) (ci := 10) rfl rfl 0 rfl rfl rfl (Nat.le_of_ble_eq_true rfl) ⟨Nat.le_of_ble_eq_true rfl, Nat.le_of_ble_eq_true rfl⟩ dX11_figure_57 (fun v_57 w_57 h_57 => ?_)
          obtain ⟨r_48, rfl, rfl, hhpk_49⟩ := h_57
          refine V_to (pc' := 60) (ls' := [(0, .ref m), (1, .int u1), (2, .int i2)]) (st' := [.int r_48]) (ws' := [((R 20), .inl (Y 2, 260, .inl a20)), ((R 21), .inl (Y 0, 260, .inl a21)), (m, .inr (10, mF R v0 v7 v8 v9 v15 p3 v17 v18 v19 v27 v31 v32 v33 v34 v38 v42 v44)), ((R 14), .inl (Y 2, 120, .inl a14))]) ?_ rfl rfl rfl rfl
          refine V_bipush (v := (48 : Int32)) X (by decide) dX11_figure_60 ?_
          refine V_bipush (v := (57 : Int32)) X (by decide) dX11_figure_62 ?_
          refine V_callS (wr := [((R 20), .inl (Y 2, 260, .inl a20)), ((R 21), .inl (Y 0, 260, .inl a21)), (m, .inr (10, mF R v0 v7 v8 v9 v15 p3 v17 v18 v19 v27 v31 v32 v33 v34 v38 v42 v44)), ((R 14), .inl (Y 2, 120, .inl a14))]) (st := []) X (c_X11_in l D Y r_48 (48 : Int32) (57 : Int32)) 3 gX11_figure_X11_in rfl (by decide +kernel) ⟨rfl, rfl⟩ ⟨Nat.le_of_ble_eq_true rfl, Nat.le_of_ble_eq_true rfl⟩ [] [0, 1, 2, 3] rfl rfl rfl rfl (by decide) rfl rfl (Nat.le_of_ble_eq_true rfl) ⟨Nat.le_of_ble_eq_true rfl, Nat.le_of_ble_eq_true rfl⟩ dX11_figure_64 (fun v_64 w_64 h_64 => ?_)
          rcases h_64 with ⟨rfl, rfl, hhy_51⟩ | ⟨rfl, rfl, hhn_52⟩
          · refine V_to (pc' := 67) (ls' := [(0, .ref m), (1, .int u1), (2, .int i2)]) (st' := [.int (1 : Int32)]) (ws' := [((R 20), .inl (Y 2, 260, .inl a20)), ((R 21), .inl (Y 0, 260, .inl a21)), (m, .inr (10, mF R v0 v7 v8 v9 v15 p3 v17 v18 v19 v27 v31 v32 v33 v34 v38 v42 v44)), ((R 14), .inl (Y 2, 120, .inl a14))]) ?_ rfl rfl rfl rfl
            refine V_if_eq X (show (1 : Int32).toInt = 1 from by decide) 74 dX11_figure_67 (by decide) (fun c_67 => absurd c_67 (by decide)) (fun _ => ?_)
            have hF : pFg c pos = (q, none) := (show (if _ then _ else _) = _ by rw [if_pos hd0]; exact pFig_y (by rw [hDx]) (by omega))
            refine V_aload_n X 0 rfl dX11_figure_70 ?_
            refine V_callV (C := RX11) (wr := [((R 20), .inl (Y 2, 260, .inl a20)), ((R 21), .inl (Y 0, 260, .inl a21)), ((R 14), .inl (Y 2, 120, .inl a14))]) (st := []) X (c_X11_faulty l D Y m R v0 v7 v8 v9 v15 p3 v17 v18 v19 v27 v31 v32 v33 v34 v38 v42 v44 tv17) 0 gX11_figure_X11_faulty rfl (by decide +kernel) ⟨rfl, rfl⟩ ⟨Nat.le_of_ble_eq_true rfl, Nat.le_of_ble_eq_true rfl⟩ [2] [0, 1, 3] rfl rfl rfl rfl (by decide) (ci := 10) rfl rfl 0 rfl rfl rfl (Nat.le_of_ble_eq_true rfl) ⟨Nat.le_of_ble_eq_true rfl, Nat.le_of_ble_eq_true rfl⟩ dX11_figure_71 (fun v_71 w_71 h_71 => ?_)
            obtain ⟨rfl, rfl⟩ := h_71
            refine V_to (pc' := 74) (ls' := [(0, .ref m), (1, .int u1), (2, .int i2)]) (st' := []) (ws' := [((R 20), .inl (Y 2, 260, .inl a20)), ((R 21), .inl (Y 0, 260, .inl a21)), ((R 14), .inl (Y 2, 120, .inl a14)), (m, .inr (10, mF R v0 v7 v8 v9 v15 p3 p3 v18 v19 v27 v31 v32 v33 v34 v38 v42 v44))]) ?_ rfl rfl rfl rfl
            refine V_aload_n X 0 rfl dX11_figure_74 ?_
            refine V_iconst (v := (1 : Int32)) X (by decide) dX11_figure_75 ?_
            refine V_iload_n X 1 rfl dX11_figure_76 ?_
            refine V_callV (C := RX11) (wr := [((R 14), .inl (Y 2, 120, .inl a14))]) (st := []) X (c_X11_addStepD l D Y m R v0 v7 v8 v9 v15 p3 p3 v18 v19 v27 v31 v32 v33 v34 v38 v42 v44 a20 a21 lo20 lo21 t0.length (1 : Int32) u1 hMC.1 hMC.2.1 (by omega)) 2 gX11_figure_X11_addStep rfl (by decide +kernel) ⟨rfl, rfl⟩ ⟨Nat.le_of_ble_eq_true rfl, Nat.le_of_ble_eq_true rfl⟩ [3, 0, 1] [2] rfl rfl rfl rfl (by decide) (ci := 10) rfl rfl 0 rfl rfl rfl (Nat.le_of_ble_eq_true rfl) ⟨Nat.le_of_ble_eq_true rfl, Nat.le_of_ble_eq_true rfl⟩ dX11_figure_77 (fun v_77 w_77 h_77 => ?_)
            obtain ⟨z19_a, b20_a, b21_a, rfl, rfl, tz19_a, hLO2_a⟩ := h_77
            refine V_to (pc' := 80) (ls' := [(0, .ref m), (1, .int u1), (2, .int i2)]) (st' := []) (ws' := [((R 14), .inl (Y 2, 120, .inl a14)), (m, .inr (10, mF R v0 v7 v8 v9 v15 p3 p3 v18 z19_a v27 v31 v32 v33 v34 v38 v42 v44)), ((R 20), .inl (Y 2, 260, .inl b20_a)), ((R 21), .inl (Y 0, 260, .inl b21_a))]) ?_ rfl rfl rfl rfl
            refine V_ws (ws' := [(m, .inr (10, mF R v0 v7 v8 v9 v15 p3 p3 v18 z19_a v27 v31 v32 v33 v34 v38 v42 v44)), ((R 14), .inl (Y 2, 120, .inl a14)), ((R 20), .inl (Y 2, 260, .inl b20_a)), ((R 21), .inl (Y 0, 260, .inl b21_a))]) [1, 0, 2, 3] rfl rfl rfl ?_
            exact V_vret X hr dX11_figure_80 (Or.inr (⟨q, (t0.length + 1), p3, p3, v18, z19_a, b20_a, b21_a, rfl, rfl, tp3, tp3, hF, hqb3.2.1, tz19_a, (by omega), hLO2_a⟩))
          · refine V_to (pc' := 67) (ls' := [(0, .ref m), (1, .int u1), (2, .int i2)]) (st' := [.int (0 : Int32)]) (ws' := [((R 20), .inl (Y 2, 260, .inl a20)), ((R 21), .inl (Y 0, 260, .inl a21)), (m, .inr (10, mF R v0 v7 v8 v9 v15 p3 v17 v18 v19 v27 v31 v32 v33 v34 v38 v42 v44)), ((R 14), .inl (Y 2, 120, .inl a14))]) ?_ rfl rfl rfl rfl
            refine V_if_eq X (show (0 : Int32).toInt = 0 from by decide) 74 dX11_figure_67 (by decide) (fun _ => ?_) (fun c_67 => absurd c_67 (by decide))
            have hF : pFg c pos = (q, some [(48, v)]) := (show (if _ then _ else _) = _ by rw [if_pos hd0, pFig_n (q := q) (by rw [hDx]) (by omega), hDx])
            refine V_aload_n X 0 rfl dX11_figure_74 ?_
            refine V_iconst (v := (1 : Int32)) X (by decide) dX11_figure_75 ?_
            refine V_iload_n X 1 rfl dX11_figure_76 ?_
            refine V_callV (C := RX11) (wr := [((R 14), .inl (Y 2, 120, .inl a14))]) (st := []) X (c_X11_addStep l D Y m R v0 v7 v8 v9 v15 p3 v17 v18 v19 v27 v31 v32 v33 v34 v38 v42 v44 a20 a21 lo20 lo21 t0 (1 : Int32) u1 hMC (by omega) (by decide)) 2 gX11_figure_X11_addStep rfl (by decide +kernel) ⟨rfl, rfl⟩ ⟨Nat.le_of_ble_eq_true rfl, Nat.le_of_ble_eq_true rfl⟩ [2, 0, 1] [3] rfl rfl rfl rfl (by decide) (ci := 10) rfl rfl 0 rfl rfl rfl (Nat.le_of_ble_eq_true rfl) ⟨Nat.le_of_ble_eq_true rfl, Nat.le_of_ble_eq_true rfl⟩ dX11_figure_77 (fun v_77 w_77 h_77 => ?_)
            obtain ⟨z19_a, b20_a, b21_a, rfl, rfl, hMC2_a⟩ := h_77
            refine V_to (pc' := 80) (ls' := [(0, .ref m), (1, .int u1), (2, .int i2)]) (st' := []) (ws' := [((R 14), .inl (Y 2, 120, .inl a14)), (m, .inr (10, mF R v0 v7 v8 v9 v15 p3 v17 v18 z19_a v27 v31 v32 v33 v34 v38 v42 v44)), ((R 20), .inl (Y 2, 260, .inl b20_a)), ((R 21), .inl (Y 0, 260, .inl b21_a))]) ?_ rfl rfl rfl rfl
            have hc_1 : (1 : Int32).toInt = 1 := by decide
            refine V_ws (ws' := [(m, .inr (10, mF R v0 v7 v8 v9 v15 p3 v17 v18 z19_a v27 v31 v32 v33 v34 v38 v42 v44)), ((R 14), .inl (Y 2, 120, .inl a14)), ((R 20), .inl (Y 2, 260, .inl b20_a)), ((R 21), .inl (Y 0, 260, .inl b21_a))]) [1, 0, 2, 3] rfl rfl rfl ?_
            exact V_vret X hr dX11_figure_80 (Or.inl ⟨q, [(48, v)], p3, z19_a, b20_a, b21_a, rfl, rfl, tp3, hF, ⟨by show pos + 1 ≤ q; omega, hqb3.2.1⟩, (by have h9 := hMC2_a; rw [show (1 : Int32).toInt = 1 from by decide, tu1] at h9; exact h9)⟩)
  · exact ⟨(by have h9 : (0 : Int32).toInt = 0 := (show (0 : Int32).toInt = 0 from by decide); omega), (by decide), tv16, (by omega), rfl, (by omega), (by omega)⟩


theorem in_X11_product_X11 : ∀ w ∈ wsX110, w ∈ wsX11_product := fun w h => List.mem_cons_of_mem _ (List.mem_append_right _ h)
set_option maxHeartbeats 4000000 in
set_option maxRecDepth 100000 in
theorem c_X11_product (l : Launch) (D : va_G) (Y : Nat → ClassId) (m : Nat) (R : Nat → Nat) (v0 : Int32) (v7 : Int32) (v8 : Int32) (v9 : Int32) (v15 : Int32) (v16 : Int32) (v17 : Int32) (v18 : Int32) (v19 : Int32) (v27 : Int32) (v31 : Int32) (v32 : Int32) (v33 : Int32) (v34 : Int32) (v38 : Int32) (v42 : Int32) (v44 : Int32) (a14 : Nat → Int32) (a20 : Nat → Int32) (a21 : Nat → Int32) (L : Nat) (c : Nat → Int) (pos : Nat) (lo20 : Nat → Int32) (lo21 : Nat → Int32) (t0 : List Tok) (opn : Nat) (k : Nat) (tv15 : v15.toInt = ((L : Nat) : Int)) (tv16 : v16.toInt = ((pos : Nat) : Int)) (hL : L ≤ 120) (hpL : pos ≤ L) (hCH : MCHR a14 L c) (tv17 : v17.toInt = (-1)) (hMC : MC lo20 lo21 a20 a21 v19 t0) (tv18 : v18.toInt = ((opn : Nat) : Int)) (htp : t0.length ≤ pos) (hok : opn + k = 6) (mhO : ∀ (l : Launch) (D : va_G) (Y : Nat → ClassId) (m : Nat) (R : Nat → Nat) (v0 : Int32) (v7 : Int32) (v8 : Int32) (v9 : Int32) (v15 : Int32) (v16 : Int32) (v17 : Int32) (v18 : Int32) (v19 : Int32) (v27 : Int32) (v31 : Int32) (v32 : Int32) (v33 : Int32) (v34 : Int32) (v38 : Int32) (v42 : Int32) (v44 : Int32) (a14 : Nat → Int32) (a20 : Nat → Int32) (a21 : Nat → Int32) (L : Nat) (c : Nat → Int) (pos : Nat) (lo20 : Nat → Int32) (lo21 : Nat → Int32) (t0 : List Tok) (opn : Nat) (tv15 : v15.toInt = ((L : Nat) : Int)) (tv16 : v16.toInt = ((pos : Nat) : Int)) (hL : L ≤ 120) (hpL : pos ≤ L) (hCH : MCHR a14 L c) (tv17 : v17.toInt = (-1)) (hMC : MC lo20 lo21 a20 a21 v19 t0) (tv18 : v18.toInt = ((opn : Nat) : Int)) (htp : t0.length ≤ pos) (hok : opn + k = 6), Mg l yX11_operand wsX11_operand ({ frames := 6 * (k) + 4, cells := 0, slots := 0, locals := 132 * (k) + 70 }) D Y [(m, .inr (10, mF R v0 v7 v8 v9 v15 v16 v17 v18 v19 v27 v31 v32 v33 v34 v38 v42 v44)), ((R 14), .inl (Y 2, 120, .inl a14)), ((R 20), .inl (Y 2, 260, .inl a20)), ((R 21), .inl (Y 0, 260, .inl a21))] [.ref m] 0 0 (fun vv__ ww__ => (∃ (q : Nat), ∃ (ts : List Tok), ∃ (z16 : Int32), ∃ (z19 : Int32), ∃ (b20 : Nat → Int32), ∃ (b21 : Nat → Int32), vv__ = none ∧ ww__ = [(m, .inr (10, mF R v0 v7 v8 v9 v15 z16 v17 v18 z19 v27 v31 v32 v33 v34 v38 v42 v44)), ((R 14), .inl (Y 2, 120, .inl a14)), ((R 20), .inl (Y 2, 260, .inl b20)), ((R 21), .inl (Y 0, 260, .inl b21))] ∧ (z16.toInt = ((q : Nat) : Int)) ∧ (pOp c k pos = (q, some ts)) ∧ (pos + ts.length ≤ q ∧ q ≤ L) ∧ (MC lo20 lo21 b20 b21 z19 (t0 ++ ts.map mkT))) ∨ (∃ (q : Nat), ∃ (l2 : Nat), ∃ (z16 : Int32), ∃ (z17 : Int32), ∃ (z18 : Int32), ∃ (z19 : Int32), ∃ (b20 : Nat → Int32), ∃ (b21 : Nat → Int32), vv__ = none ∧ ww__ = [(m, .inr (10, mF R v0 v7 v8 v9 v15 z16 z17 z18 z19 v27 v31 v32 v33 v34 v38 v42 v44)), ((R 14), .inl (Y 2, 120, .inl a14)), ((R 20), .inl (Y 2, 260, .inl b20)), ((R 21), .inl (Y 0, 260, .inl b21))] ∧ (z16.toInt = ((q : Nat) : Int)) ∧ (z17.toInt = ((q : Nat) : Int)) ∧ (pOp c k pos = (q, none)) ∧ (q ≤ L) ∧ (z19.toInt = ((l2 : Nat) : Int)) ∧ (l2 + pos ≤ t0.length + q + 1) ∧ (LO lo20 lo21 b20 b21)))) : Mg l yX11_product wsX11_product ({ frames := 6 * (k) + 4 + 1, cells := 0, slots := 0, locals := 132 * (k) + 70 + 22 * 1 }) D Y [(m, .inr (10, mF R v0 v7 v8 v9 v15 v16 v17 v18 v19 v27 v31 v32 v33 v34 v38 v42 v44)), ((R 14), .inl (Y 2, 120, .inl a14)), ((R 20), .inl (Y 2, 260, .inl a20)), ((R 21), .inl (Y 0, 260, .inl a21))] [.ref m] 0 0 (fun vv__ ww__ => (∃ (q : Nat), ∃ (ts : List Tok), ∃ (z16 : Int32), ∃ (z19 : Int32), ∃ (b20 : Nat → Int32), ∃ (b21 : Nat → Int32), vv__ = none ∧ ww__ = [(m, .inr (10, mF R v0 v7 v8 v9 v15 z16 v17 v18 z19 v27 v31 v32 v33 v34 v38 v42 v44)), ((R 14), .inl (Y 2, 120, .inl a14)), ((R 20), .inl (Y 2, 260, .inl b20)), ((R 21), .inl (Y 0, 260, .inl b21))] ∧ (z16.toInt = ((q : Nat) : Int)) ∧ (pTm c (pOp c k) 1 pos = (q, some ts)) ∧ (pos + ts.length ≤ q ∧ q ≤ L) ∧ (MC lo20 lo21 b20 b21 z19 (t0 ++ ts.map mkT))) ∨ (∃ (q : Nat), ∃ (l2 : Nat), ∃ (z16 : Int32), ∃ (z17 : Int32), ∃ (z18 : Int32), ∃ (z19 : Int32), ∃ (b20 : Nat → Int32), ∃ (b21 : Nat → Int32), vv__ = none ∧ ww__ = [(m, .inr (10, mF R v0 v7 v8 v9 v15 z16 z17 z18 z19 v27 v31 v32 v33 v34 v38 v42 v44)), ((R 14), .inl (Y 2, 120, .inl a14)), ((R 20), .inl (Y 2, 260, .inl b20)), ((R 21), .inl (Y 0, 260, .inl b21))] ∧ (z16.toInt = ((q : Nat) : Int)) ∧ (z17.toInt = ((q : Nat) : Int)) ∧ (pTm c (pOp c k) 1 pos = (q, none)) ∧ (q ≤ L) ∧ (z19.toInt = ((l2 : Nat) : Int)) ∧ (l2 + pos ≤ t0.length + q + 1) ∧ (LO lo20 lo21 b20 b21))) := by
  refine Mg_of (cc := cX11_product) (maxL := 2) (ret := none) (ls0 := [(0, .ref m)]) RX11 (by decide) rfl rfl rfl (Nat.le_of_ble_eq_true rfl) (fun p__ e__ s__ m__ b__ t__ c__ X hr hn => ?_)
  refine V_aload_n X 0 rfl dX11_product_0 ?_
  refine V_callV (C := RX11) (wr := []) (st := []) X (mhO l D Y m R v0 v7 v8 v9 v15 v16 v17 v18 v19 v27 v31 v32 v33 v34 v38 v42 v44 a14 a20 a21 L c pos lo20 lo21 t0 opn tv15 tv16 hL hpL hCH tv17 hMC tv18 htp hok) 0 gX11_product_X11_operand rfl (by decide +kernel) ⟨rfl, rfl⟩ ⟨(by simp only [headSpec]; omega), (by simp only [headSpec]; omega)⟩ [0, 1, 2, 3] [] rfl rfl rfl rfl (by decide) (ci := 10) rfl rfl 0 rfl rfl rfl (Nat.le_of_ble_eq_true rfl) ⟨Nat.le_of_ble_eq_true rfl, Nat.le_of_ble_eq_true rfl⟩ dX11_product_1 (fun v_1 w_1 h_1 => ?_)
  rcases h_1 with ⟨q_f, ts_f, z16_f, z19_f, b20_f, b21_f, rfl, rfl, tz16_f, hR_f, hqb_f, hMC2_f⟩ | ⟨q_f, l2_f, z16_f, z17_f, z18_f, z19_f, b20_f, b21_f, rfl, rfl, tz16_f, tz17_f, hR_f, hqL_f, tz19_f, hl2_f, hLO2_f⟩
  · refine V_to (pc' := 4) (ls' := [(0, .ref m)]) (st' := []) (ws' := [(m, .inr (10, mF R v0 v7 v8 v9 v15 z16_f v17 v18 z19_f v27 v31 v32 v33 v34 v38 v42 v44)), ((R 14), .inl (Y 2, 120, .inl a14)), ((R 20), .inl (Y 2, 260, .inl b20_f)), ((R 21), .inl (Y 0, 260, .inl b21_f))]) ?_ rfl rfl rfl rfl
    refine V_to (V_ind7 (fun (i : Nat) (p3 : Int32) (q3 : Nat) (z3 : Int32) (g20 : Nat → Int32) (g21 : Nat → Int32) (ts3 : List Tok) => (p3.toInt = ((q3 : Nat) : Int)) ∧ (i ≤ 120 ∧ pos + i ≤ q3) ∧ (pos + ts3.length ≤ q3 ∧ q3 ≤ L) ∧ (MC lo20 lo21 g20 g21 z3 (t0 ++ ts3.map mkT)) ∧ (pLp c (pTm c (pOp c k) 0) 4 (120 - i) q3 ts3 = pTm c (pOp c k) 1 pos)) (fun (i : Nat) (p3 : Int32) (q3 : Nat) (z3 : Int32) (g20 : Nat → Int32) (g21 : Nat → Int32) (ts3 : List Tok) => 120 - i) (fun (i : Nat) (p3 : Int32) (q3 : Nat) (z3 : Int32) (g20 : Nat → Int32) (g21 : Nat → Int32) (ts3 : List Tok) => [(0, .ref m)]) (fun (i : Nat) (p3 : Int32) (q3 : Nat) (z3 : Int32) (g20 : Nat → Int32) (g21 : Nat → Int32) (ts3 : List Tok) => [(m, .inr (10, mF R v0 v7 v8 v9 v15 p3 v17 v18 z3 v27 v31 v32 v33 v34 v38 v42 v44)), ((R 14), .inl (Y 2, 120, .inl a14)), ((R 20), .inl (Y 2, 260, .inl g20)), ((R 21), .inl (Y 0, 260, .inl g21))]) (fun i p3 q3 z3 g20 g21 ts3 hI_4 ih_4 => ?_) 0 z16_f q_f z19_f b20_f b21_f ts_f ?_) rfl rfl rfl rfl
    · obtain ⟨tp3, hi3, hqb3, hMC3, hP3⟩ := hI_4
      refine V_to (ls' := [(0, .ref m)]) (ws' := [(m, .inr (10, mF R v0 v7 v8 v9 v15 p3 v17 v18 z3 v27 v31 v32 v33 v34 v38 v42 v44)), ((R 14), .inl (Y 2, 120, .inl a14)), ((R 20), .inl (Y 2, 260, .inl g20)), ((R 21), .inl (Y 0, 260, .inl g21))]) ?_ rfl rfl rfl rfl
      refine V_aload_n X 0 rfl dX11_product_4 ?_
      refine V_get (C := RX11) (T := TX11) (N := 50) (ci := 10) (v := .int v17) X in_X11_product_X11 0 rfl rfl 17 (by decide) (List.mem_of_getElem? (i := 1) rfl) rfl rfl dX11_product_5 ?_
      refine V_if_ge X tv17 66 dX11_product_8 (by decide) (fun c_8 => absurd c_8 (by decide)) (fun _ => ?_)
      refine V_aload_n X 0 rfl dX11_product_11 ?_
      refine V_callV (C := RX11) (wr := [((R 20), .inl (Y 2, 260, .inl g20)), ((R 21), .inl (Y 0, 260, .inl g21))]) (st := []) X (c_X11_look l D Y m R v0 v7 v8 v9 v15 p3 v17 v18 z3 v27 v31 v32 v33 v34 v38 v42 v44 a14 L c q3 tv15 tp3 hL (by omega) hCH) 0 gX11_product_X11_look rfl (by decide +kernel) ⟨rfl, rfl⟩ ⟨(by simp only [headSpec]; omega), (by simp only [headSpec]; omega)⟩ [0, 1] [2, 3] rfl rfl rfl rfl (by decide) (ci := 10) rfl rfl 0 rfl rfl rfl (Nat.le_of_ble_eq_true rfl) ⟨Nat.le_of_ble_eq_true rfl, Nat.le_of_ble_eq_true rfl⟩ dX11_product_12 (fun v_12 w_12 h_12 => ?_)
      obtain ⟨r_28, rfl, rfl, hhpk_29⟩ := h_12
      refine V_to (pc' := 15) (ls' := [(0, .ref m)]) (st' := [.int r_28]) (ws' := [((R 20), .inl (Y 2, 260, .inl g20)), ((R 21), .inl (Y 0, 260, .inl g21)), (m, .inr (10, mF R v0 v7 v8 v9 v15 p3 v17 v18 z3 v27 v31 v32 v33 v34 v38 v42 v44)), ((R 14), .inl (Y 2, 120, .inl a14))]) ?_ rfl rfl rfl rfl
      refine V_bipush (v := (42 : Int32)) X (by decide) dX11_product_15 ?_
      refine V_icmp_eq X rfl (show (42 : Int32).toInt = 42 from by decide) 38 dX11_product_17 (by decide) (fun c_17 => ?_) (fun c_17 => ?_)
      · have hcc : c q3 = 42 ∨ c q3 = 47 ∨ c q3 = 37 := by omega
        have hlc : lvC (c q3) = ((4 : Nat) : Int) := lv4.mpr hcc
        have hlv : 0 ≤ lvC (c q3) := by omega
        have hqlt := MCHR_lt hCH (show c q3 ≠ -1 by omega)
        refine V_aload_n X 0 rfl dX11_product_38 ?_
        refine V_callV (C := RX11) (wr := [((R 20), .inl (Y 2, 260, .inl g20)), ((R 21), .inl (Y 0, 260, .inl g21))]) (st := []) X (c_X11_look l D Y m R v0 v7 v8 v9 v15 p3 v17 v18 z3 v27 v31 v32 v33 v34 v38 v42 v44 a14 L c q3 tv15 tp3 hL (by omega) hCH) 0 gX11_product_X11_look rfl (by decide +kernel) ⟨rfl, rfl⟩ ⟨(by simp only [headSpec]; omega), (by simp only [headSpec]; omega)⟩ [2, 3] [0, 1] rfl rfl rfl rfl (by decide) (ci := 10) rfl rfl 0 rfl rfl rfl (Nat.le_of_ble_eq_true rfl) ⟨Nat.le_of_ble_eq_true rfl, Nat.le_of_ble_eq_true rfl⟩ dX11_product_39 (fun v_39 w_39 h_39 => ?_)
        obtain ⟨r_31, rfl, rfl, hhpk_32⟩ := h_39
        refine V_to (pc' := 42) (ls' := [(0, .ref m)]) (st' := [.int r_31]) (ws' := [((R 20), .inl (Y 2, 260, .inl g20)), ((R 21), .inl (Y 0, 260, .inl g21)), (m, .inr (10, mF R v0 v7 v8 v9 v15 p3 v17 v18 z3 v27 v31 v32 v33 v34 v38 v42 v44)), ((R 14), .inl (Y 2, 120, .inl a14))]) ?_ rfl rfl rfl rfl
        refine V_istore_n (ls' := [(1, .int r_31), (0, .ref m)]) X (by decide) rfl dX11_product_42 ?_
        refine V_aload_n X 1 rfl dX11_product_43 ?_
        refine V_dup X rfl dX11_product_44 ?_
        refine V_get (C := RX11) (T := TX11) (N := 50) (ci := 10) (v := .int p3) X in_X11_product_X11 2 rfl rfl 16 (by decide) (List.mem_of_getElem? (i := 2) rfl) rfl rfl dX11_product_45 ?_
        refine V_iconst (v := (1 : Int32)) X (by decide) dX11_product_48 ?_
        refine V_iaddZ X tp3 (show (1 : Int32).toInt = 1 from by decide) (by omega) (by omega) dX11_product_49 (fun x_33 ex_33 tx_33 => ?_)
        have tx_33 : x_33.toInt = (((q3 + 1) : Nat) : Int) := by omega
        refine V_put (C := RX11) (T := TX11) (N := 50) (ci := 10) (v := .int x_33) (ty := tyX11 16) (ws' := [((R 20), .inl (Y 2, 260, .inl g20)), ((R 21), .inl (Y 0, 260, .inl g21)), (m, .inr (10, mF R v0 v7 v8 v9 v15 x_33 v17 v18 z3 v27 v31 v32 v33 v34 v38 v42 v44)), ((R 14), .inl (Y 2, 120, .inl a14))]) X in_X11_product_X11 2 rfl rfl 16 (by decide) (List.mem_of_getElem? (i := 2) rfl) rfl tyX11 tyX11_ok nmX11 rfl (tyX11_ok 16 (by decide)) rfl rfl (Nat.le_of_ble_eq_true rfl) rfl dX11_product_50 ?_
        refine V_aload_n X 1 rfl dX11_product_53 ?_
        refine V_callV (C := RX11) (wr := []) (st := []) X (mhO l D Y m R v0 v7 v8 v9 v15 x_33 v17 v18 z3 v27 v31 v32 v33 v34 v38 v42 v44 a14 g20 g21 L c (q3 + 1) lo20 lo21 (t0 ++ ts3.map mkT) opn tv15 tx_33 hL (by omega) hCH tv17 hMC3 tv18 (by rw [List.length_append, List.length_map]; omega) hok) 0 gX11_product_X11_operand rfl (by decide +kernel) ⟨rfl, rfl⟩ ⟨(by simp only [headSpec]; omega), (by simp only [headSpec]; omega)⟩ [2, 3, 0, 1] [] rfl rfl rfl rfl (by decide) (ci := 10) rfl rfl 0 rfl rfl rfl (Nat.le_of_ble_eq_true rfl) ⟨Nat.le_of_ble_eq_true rfl, Nat.le_of_ble_eq_true rfl⟩ dX11_product_54 (fun v_54 w_54 h_54 => ?_)
        rcases h_54 with ⟨q_g, ts_g, z16_g, z19_g, b20_g, b21_g, rfl, rfl, tz16_g, hR_g, hqb_g, hMC2_g⟩ | ⟨q_g, l2_g, z16_g, z17_g, z18_g, z19_g, b20_g, b21_g, rfl, rfl, tz16_g, tz17_g, hR_g, hqL_g, tz19_g, hl2_g, hLO2_g⟩
        · refine V_to (pc' := 57) (ls' := [(1, .int r_31), (0, .ref m)]) (st' := []) (ws' := [(m, .inr (10, mF R v0 v7 v8 v9 v15 z16_g v17 v18 z19_g v27 v31 v32 v33 v34 v38 v42 v44)), ((R 14), .inl (Y 2, 120, .inl a14)), ((R 20), .inl (Y 2, 260, .inl b20_g)), ((R 21), .inl (Y 0, 260, .inl b21_g))]) ?_ rfl rfl rfl rfl
          refine V_aload_n X 1 rfl dX11_product_57 ?_
          refine V_iload_n X 0 rfl dX11_product_58 ?_
          refine V_iconst (v := (0 : Int32)) X (by decide) dX11_product_59 ?_
          have hsg : r_31.toInt = c q3 := by omega
          refine V_callV (C := RX11) (wr := [((R 14), .inl (Y 2, 120, .inl a14))]) (st := []) X (c_X11_addStep l D Y m R v0 v7 v8 v9 v15 z16_g v17 v18 z19_g v27 v31 v32 v33 v34 v38 v42 v44 b20_g b21_g lo20 lo21 ((t0 ++ ts3.map mkT) ++ ts_g.map mkT) r_31 (0 : Int32) hMC2_g (by rw [List.length_append, List.length_append, List.length_map, List.length_map]; omega) (by omega)) 2 gX11_product_X11_addStep rfl (by decide +kernel) ⟨rfl, rfl⟩ ⟨(by simp only [headSpec]; omega), (by simp only [headSpec]; omega)⟩ [0, 2, 3] [1] rfl rfl rfl rfl (by decide) (ci := 10) rfl rfl 0 rfl rfl rfl (Nat.le_of_ble_eq_true rfl) ⟨Nat.le_of_ble_eq_true rfl, Nat.le_of_ble_eq_true rfl⟩ dX11_product_60 (fun v_60 w_60 h_60 => ?_)
          obtain ⟨z19_a, b20_a, b21_a, rfl, rfl, hMC2_a⟩ := h_60
          refine V_to (pc' := 63) (ls' := [(1, .int r_31), (0, .ref m)]) (st' := []) (ws' := [((R 14), .inl (Y 2, 120, .inl a14)), (m, .inr (10, mF R v0 v7 v8 v9 v15 z16_g v17 v18 z19_a v27 v31 v32 v33 v34 v38 v42 v44)), ((R 20), .inl (Y 2, 260, .inl b20_a)), ((R 21), .inl (Y 0, 260, .inl b21_a))]) ?_ rfl rfl rfl rfl
          have hc_0 : (0 : Int32).toInt = 0 := by decide
          refine V_goto X 4 (by decide) dX11_product_63 ?_
          refine V_ls (ls' := [(0, .ref m)]) [1] rfl ?_
          refine V_ws (ws' := [(m, .inr (10, mF R v0 v7 v8 v9 v15 z16_g v17 v18 z19_a v27 v31 v32 v33 v34 v38 v42 v44)), ((R 14), .inl (Y 2, 120, .inl a14)), ((R 20), .inl (Y 2, 260, .inl b20_a)), ((R 21), .inl (Y 0, 260, .inl b21_a))]) [1, 0, 2, 3] rfl rfl rfl ?_
          exact V_to (ih_4 (i + 1) z16_g q_g z19_a b20_a b21_a (ts3 ++ ts_g ++ [(c q3, 0)]) ⟨tz16_g, (by omega), (by rw [List.length_append, List.length_append, List.length_singleton]; omega), (by have h9 := hMC2_a; rw [hsg, show (0 : Int32).toInt = 0 from by decide, mpush hlv] at h9; exact h9), (by rw [show 120 - (i + 1) = 120 - i - 1 by omega]; exact pLp_y hP3 (by omega) hlc hR_g (by omega))⟩ (by omega)) rfl rfl rfl rfl
        · refine V_to (pc' := 57) (ls' := [(1, .int r_31), (0, .ref m)]) (st' := []) (ws' := [(m, .inr (10, mF R v0 v7 v8 v9 v15 z16_g z17_g z18_g z19_g v27 v31 v32 v33 v34 v38 v42 v44)), ((R 14), .inl (Y 2, 120, .inl a14)), ((R 20), .inl (Y 2, 260, .inl b20_g)), ((R 21), .inl (Y 0, 260, .inl b21_g))]) ?_ rfl rfl rfl rfl
          refine V_aload_n X 1 rfl dX11_product_57 ?_
          refine V_iload_n X 0 rfl dX11_product_58 ?_
          refine V_iconst (v := (0 : Int32)) X (by decide) dX11_product_59 ?_
          have hsg : r_31.toInt = c q3 := by omega
          refine V_callV (C := RX11) (wr := [((R 14), .inl (Y 2, 120, .inl a14))]) (st := []) X (c_X11_addStepD l D Y m R v0 v7 v8 v9 v15 z16_g z17_g z18_g z19_g v27 v31 v32 v33 v34 v38 v42 v44 b20_g b21_g lo20 lo21 l2_g r_31 (0 : Int32) tz19_g hLO2_g (by rw [List.length_append, List.length_map] at hl2_g; omega)) 2 gX11_product_X11_addStep rfl (by decide +kernel) ⟨rfl, rfl⟩ ⟨(by simp only [headSpec]; omega), (by simp only [headSpec]; omega)⟩ [0, 2, 3] [1] rfl rfl rfl rfl (by decide) (ci := 10) rfl rfl 0 rfl rfl rfl (Nat.le_of_ble_eq_true rfl) ⟨Nat.le_of_ble_eq_true rfl, Nat.le_of_ble_eq_true rfl⟩ dX11_product_60 (fun v_60 w_60 h_60 => ?_)
          obtain ⟨z19_a, b20_a, b21_a, rfl, rfl, tz19_a, hLO2_a⟩ := h_60
          refine V_to (pc' := 63) (ls' := [(1, .int r_31), (0, .ref m)]) (st' := []) (ws' := [((R 14), .inl (Y 2, 120, .inl a14)), (m, .inr (10, mF R v0 v7 v8 v9 v15 z16_g z17_g z18_g z19_a v27 v31 v32 v33 v34 v38 v42 v44)), ((R 20), .inl (Y 2, 260, .inl b20_a)), ((R 21), .inl (Y 0, 260, .inl b21_a))]) ?_ rfl rfl rfl rfl
          refine V_goto X 4 (by decide) dX11_product_63 ?_
          refine V_aload_n X 1 rfl dX11_product_4 ?_
          refine V_get (C := RX11) (T := TX11) (N := 50) (ci := 10) (v := .int z17_g) X in_X11_product_X11 1 rfl rfl 17 (by decide) (List.mem_of_getElem? (i := 1) rfl) rfl rfl dX11_product_5 ?_
          refine V_if_ge X tz17_g 66 dX11_product_8 (by decide) (fun c_8 => ?_) (fun c_8 => False.elim (by omega))
          refine V_ws (ws' := [(m, .inr (10, mF R v0 v7 v8 v9 v15 z16_g z17_g z18_g z19_a v27 v31 v32 v33 v34 v38 v42 v44)), ((R 14), .inl (Y 2, 120, .inl a14)), ((R 20), .inl (Y 2, 260, .inl b20_a)), ((R 21), .inl (Y 0, 260, .inl b21_a))]) [1, 0, 2, 3] rfl rfl rfl ?_
          exact V_vret X hr dX11_product_66 (Or.inr (⟨q_g, (l2_g + 1), z16_g, z17_g, z18_g, z19_a, b20_a, b21_a, rfl, rfl, tz16_g, tz17_g, (pLp_n hP3 (by omega) hlc hR_g), hqL_g, tz19_a, (by rw [List.length_append, List.length_map] at hl2_g; omega), hLO2_a⟩))
      · refine V_aload_n X 0 rfl dX11_product_20 ?_
        refine V_callV (C := RX11) (wr := [((R 20), .inl (Y 2, 260, .inl g20)), ((R 21), .inl (Y 0, 260, .inl g21))]) (st := []) X (c_X11_look l D Y m R v0 v7 v8 v9 v15 p3 v17 v18 z3 v27 v31 v32 v33 v34 v38 v42 v44 a14 L c q3 tv15 tp3 hL (by omega) hCH) 0 gX11_product_X11_look rfl (by decide +kernel) ⟨rfl, rfl⟩ ⟨(by simp only [headSpec]; omega), (by simp only [headSpec]; omega)⟩ [2, 3] [0, 1] rfl rfl rfl rfl (by decide) (ci := 10) rfl rfl 0 rfl rfl rfl (Nat.le_of_ble_eq_true rfl) ⟨Nat.le_of_ble_eq_true rfl, Nat.le_of_ble_eq_true rfl⟩ dX11_product_21 (fun v_21 w_21 h_21 => ?_)
        obtain ⟨r_72, rfl, rfl, hhpk_73⟩ := h_21
        refine V_to (pc' := 24) (ls' := [(0, .ref m)]) (st' := [.int r_72]) (ws' := [((R 20), .inl (Y 2, 260, .inl g20)), ((R 21), .inl (Y 0, 260, .inl g21)), (m, .inr (10, mF R v0 v7 v8 v9 v15 p3 v17 v18 z3 v27 v31 v32 v33 v34 v38 v42 v44)), ((R 14), .inl (Y 2, 120, .inl a14))]) ?_ rfl rfl rfl rfl
        refine V_bipush (v := (47 : Int32)) X (by decide) dX11_product_24 ?_
        refine V_icmp_eq X rfl (show (47 : Int32).toInt = 47 from by decide) 38 dX11_product_26 (by decide) (fun c_26 => ?_) (fun c_26 => ?_)
        · have hcc : c q3 = 42 ∨ c q3 = 47 ∨ c q3 = 37 := by omega
          have hlc : lvC (c q3) = ((4 : Nat) : Int) := lv4.mpr hcc
          have hlv : 0 ≤ lvC (c q3) := by omega
          have hqlt := MCHR_lt hCH (show c q3 ≠ -1 by omega)
          refine V_aload_n X 0 rfl dX11_product_38 ?_
          refine V_callV (C := RX11) (wr := [((R 20), .inl (Y 2, 260, .inl g20)), ((R 21), .inl (Y 0, 260, .inl g21))]) (st := []) X (c_X11_look l D Y m R v0 v7 v8 v9 v15 p3 v17 v18 z3 v27 v31 v32 v33 v34 v38 v42 v44 a14 L c q3 tv15 tp3 hL (by omega) hCH) 0 gX11_product_X11_look rfl (by decide +kernel) ⟨rfl, rfl⟩ ⟨(by simp only [headSpec]; omega), (by simp only [headSpec]; omega)⟩ [2, 3] [0, 1] rfl rfl rfl rfl (by decide) (ci := 10) rfl rfl 0 rfl rfl rfl (Nat.le_of_ble_eq_true rfl) ⟨Nat.le_of_ble_eq_true rfl, Nat.le_of_ble_eq_true rfl⟩ dX11_product_39 (fun v_39 w_39 h_39 => ?_)
          obtain ⟨r_75, rfl, rfl, hhpk_76⟩ := h_39
          refine V_to (pc' := 42) (ls' := [(0, .ref m)]) (st' := [.int r_75]) (ws' := [((R 20), .inl (Y 2, 260, .inl g20)), ((R 21), .inl (Y 0, 260, .inl g21)), (m, .inr (10, mF R v0 v7 v8 v9 v15 p3 v17 v18 z3 v27 v31 v32 v33 v34 v38 v42 v44)), ((R 14), .inl (Y 2, 120, .inl a14))]) ?_ rfl rfl rfl rfl
          refine V_istore_n (ls' := [(1, .int r_75), (0, .ref m)]) X (by decide) rfl dX11_product_42 ?_
          refine V_aload_n X 1 rfl dX11_product_43 ?_
          refine V_dup X rfl dX11_product_44 ?_
          refine V_get (C := RX11) (T := TX11) (N := 50) (ci := 10) (v := .int p3) X in_X11_product_X11 2 rfl rfl 16 (by decide) (List.mem_of_getElem? (i := 2) rfl) rfl rfl dX11_product_45 ?_
          refine V_iconst (v := (1 : Int32)) X (by decide) dX11_product_48 ?_
          refine V_iaddZ X tp3 (show (1 : Int32).toInt = 1 from by decide) (by omega) (by omega) dX11_product_49 (fun x_77 ex_77 tx_77 => ?_)
          have tx_77 : x_77.toInt = (((q3 + 1) : Nat) : Int) := by omega
          refine V_put (C := RX11) (T := TX11) (N := 50) (ci := 10) (v := .int x_77) (ty := tyX11 16) (ws' := [((R 20), .inl (Y 2, 260, .inl g20)), ((R 21), .inl (Y 0, 260, .inl g21)), (m, .inr (10, mF R v0 v7 v8 v9 v15 x_77 v17 v18 z3 v27 v31 v32 v33 v34 v38 v42 v44)), ((R 14), .inl (Y 2, 120, .inl a14))]) X in_X11_product_X11 2 rfl rfl 16 (by decide) (List.mem_of_getElem? (i := 2) rfl) rfl tyX11 tyX11_ok nmX11 rfl (tyX11_ok 16 (by decide)) rfl rfl (Nat.le_of_ble_eq_true rfl) rfl dX11_product_50 ?_
          refine V_aload_n X 1 rfl dX11_product_53 ?_
          refine V_callV (C := RX11) (wr := []) (st := []) X (mhO l D Y m R v0 v7 v8 v9 v15 x_77 v17 v18 z3 v27 v31 v32 v33 v34 v38 v42 v44 a14 g20 g21 L c (q3 + 1) lo20 lo21 (t0 ++ ts3.map mkT) opn tv15 tx_77 hL (by omega) hCH tv17 hMC3 tv18 (by rw [List.length_append, List.length_map]; omega) hok) 0 gX11_product_X11_operand rfl (by decide +kernel) ⟨rfl, rfl⟩ ⟨(by simp only [headSpec]; omega), (by simp only [headSpec]; omega)⟩ [2, 3, 0, 1] [] rfl rfl rfl rfl (by decide) (ci := 10) rfl rfl 0 rfl rfl rfl (Nat.le_of_ble_eq_true rfl) ⟨Nat.le_of_ble_eq_true rfl, Nat.le_of_ble_eq_true rfl⟩ dX11_product_54 (fun v_54 w_54 h_54 => ?_)
          rcases h_54 with ⟨q_g, ts_g, z16_g, z19_g, b20_g, b21_g, rfl, rfl, tz16_g, hR_g, hqb_g, hMC2_g⟩ | ⟨q_g, l2_g, z16_g, z17_g, z18_g, z19_g, b20_g, b21_g, rfl, rfl, tz16_g, tz17_g, hR_g, hqL_g, tz19_g, hl2_g, hLO2_g⟩
          · refine V_to (pc' := 57) (ls' := [(1, .int r_75), (0, .ref m)]) (st' := []) (ws' := [(m, .inr (10, mF R v0 v7 v8 v9 v15 z16_g v17 v18 z19_g v27 v31 v32 v33 v34 v38 v42 v44)), ((R 14), .inl (Y 2, 120, .inl a14)), ((R 20), .inl (Y 2, 260, .inl b20_g)), ((R 21), .inl (Y 0, 260, .inl b21_g))]) ?_ rfl rfl rfl rfl
            refine V_aload_n X 1 rfl dX11_product_57 ?_
            refine V_iload_n X 0 rfl dX11_product_58 ?_
            refine V_iconst (v := (0 : Int32)) X (by decide) dX11_product_59 ?_
            have hsg : r_75.toInt = c q3 := by omega
            refine V_callV (C := RX11) (wr := [((R 14), .inl (Y 2, 120, .inl a14))]) (st := []) X (c_X11_addStep l D Y m R v0 v7 v8 v9 v15 z16_g v17 v18 z19_g v27 v31 v32 v33 v34 v38 v42 v44 b20_g b21_g lo20 lo21 ((t0 ++ ts3.map mkT) ++ ts_g.map mkT) r_75 (0 : Int32) hMC2_g (by rw [List.length_append, List.length_append, List.length_map, List.length_map]; omega) (by omega)) 2 gX11_product_X11_addStep rfl (by decide +kernel) ⟨rfl, rfl⟩ ⟨(by simp only [headSpec]; omega), (by simp only [headSpec]; omega)⟩ [0, 2, 3] [1] rfl rfl rfl rfl (by decide) (ci := 10) rfl rfl 0 rfl rfl rfl (Nat.le_of_ble_eq_true rfl) ⟨Nat.le_of_ble_eq_true rfl, Nat.le_of_ble_eq_true rfl⟩ dX11_product_60 (fun v_60 w_60 h_60 => ?_)
            obtain ⟨z19_a, b20_a, b21_a, rfl, rfl, hMC2_a⟩ := h_60
            refine V_to (pc' := 63) (ls' := [(1, .int r_75), (0, .ref m)]) (st' := []) (ws' := [((R 14), .inl (Y 2, 120, .inl a14)), (m, .inr (10, mF R v0 v7 v8 v9 v15 z16_g v17 v18 z19_a v27 v31 v32 v33 v34 v38 v42 v44)), ((R 20), .inl (Y 2, 260, .inl b20_a)), ((R 21), .inl (Y 0, 260, .inl b21_a))]) ?_ rfl rfl rfl rfl
            have hc_0 : (0 : Int32).toInt = 0 := by decide
            refine V_goto X 4 (by decide) dX11_product_63 ?_
            refine V_ls (ls' := [(0, .ref m)]) [1] rfl ?_
            refine V_ws (ws' := [(m, .inr (10, mF R v0 v7 v8 v9 v15 z16_g v17 v18 z19_a v27 v31 v32 v33 v34 v38 v42 v44)), ((R 14), .inl (Y 2, 120, .inl a14)), ((R 20), .inl (Y 2, 260, .inl b20_a)), ((R 21), .inl (Y 0, 260, .inl b21_a))]) [1, 0, 2, 3] rfl rfl rfl ?_
            exact V_to (ih_4 (i + 1) z16_g q_g z19_a b20_a b21_a (ts3 ++ ts_g ++ [(c q3, 0)]) ⟨tz16_g, (by omega), (by rw [List.length_append, List.length_append, List.length_singleton]; omega), (by have h9 := hMC2_a; rw [hsg, show (0 : Int32).toInt = 0 from by decide, mpush hlv] at h9; exact h9), (by rw [show 120 - (i + 1) = 120 - i - 1 by omega]; exact pLp_y hP3 (by omega) hlc hR_g (by omega))⟩ (by omega)) rfl rfl rfl rfl
          · refine V_to (pc' := 57) (ls' := [(1, .int r_75), (0, .ref m)]) (st' := []) (ws' := [(m, .inr (10, mF R v0 v7 v8 v9 v15 z16_g z17_g z18_g z19_g v27 v31 v32 v33 v34 v38 v42 v44)), ((R 14), .inl (Y 2, 120, .inl a14)), ((R 20), .inl (Y 2, 260, .inl b20_g)), ((R 21), .inl (Y 0, 260, .inl b21_g))]) ?_ rfl rfl rfl rfl
            refine V_aload_n X 1 rfl dX11_product_57 ?_
            refine V_iload_n X 0 rfl dX11_product_58 ?_
            refine V_iconst (v := (0 : Int32)) X (by decide) dX11_product_59 ?_
            have hsg : r_75.toInt = c q3 := by omega
            refine V_callV (C := RX11) (wr := [((R 14), .inl (Y 2, 120, .inl a14))]) (st := []) X (c_X11_addStepD l D Y m R v0 v7 v8 v9 v15 z16_g z17_g z18_g z19_g v27 v31 v32 v33 v34 v38 v42 v44 b20_g b21_g lo20 lo21 l2_g r_75 (0 : Int32) tz19_g hLO2_g (by rw [List.length_append, List.length_map] at hl2_g; omega)) 2 gX11_product_X11_addStep rfl (by decide +kernel) ⟨rfl, rfl⟩ ⟨(by simp only [headSpec]; omega), (by simp only [headSpec]; omega)⟩ [0, 2, 3] [1] rfl rfl rfl rfl (by decide) (ci := 10) rfl rfl 0 rfl rfl rfl (Nat.le_of_ble_eq_true rfl) ⟨Nat.le_of_ble_eq_true rfl, Nat.le_of_ble_eq_true rfl⟩ dX11_product_60 (fun v_60 w_60 h_60 => ?_)
            obtain ⟨z19_a, b20_a, b21_a, rfl, rfl, tz19_a, hLO2_a⟩ := h_60
            refine V_to (pc' := 63) (ls' := [(1, .int r_75), (0, .ref m)]) (st' := []) (ws' := [((R 14), .inl (Y 2, 120, .inl a14)), (m, .inr (10, mF R v0 v7 v8 v9 v15 z16_g z17_g z18_g z19_a v27 v31 v32 v33 v34 v38 v42 v44)), ((R 20), .inl (Y 2, 260, .inl b20_a)), ((R 21), .inl (Y 0, 260, .inl b21_a))]) ?_ rfl rfl rfl rfl
            refine V_goto X 4 (by decide) dX11_product_63 ?_
            refine V_aload_n X 1 rfl dX11_product_4 ?_
            refine V_get (C := RX11) (T := TX11) (N := 50) (ci := 10) (v := .int z17_g) X in_X11_product_X11 1 rfl rfl 17 (by decide) (List.mem_of_getElem? (i := 1) rfl) rfl rfl dX11_product_5 ?_
            refine V_if_ge X tz17_g 66 dX11_product_8 (by decide) (fun c_8 => ?_) (fun c_8 => False.elim (by omega))
            refine V_ws (ws' := [(m, .inr (10, mF R v0 v7 v8 v9 v15 z16_g z17_g z18_g z19_a v27 v31 v32 v33 v34 v38 v42 v44)), ((R 14), .inl (Y 2, 120, .inl a14)), ((R 20), .inl (Y 2, 260, .inl b20_a)), ((R 21), .inl (Y 0, 260, .inl b21_a))]) [1, 0, 2, 3] rfl rfl rfl ?_
            exact V_vret X hr dX11_product_66 (Or.inr (⟨q_g, (l2_g + 1), z16_g, z17_g, z18_g, z19_a, b20_a, b21_a, rfl, rfl, tz16_g, tz17_g, (pLp_n hP3 (by omega) hlc hR_g), hqL_g, tz19_a, (by rw [List.length_append, List.length_map] at hl2_g; omega), hLO2_a⟩))
        · refine V_aload_n X 0 rfl dX11_product_29 ?_
          refine V_callV (C := RX11) (wr := [((R 20), .inl (Y 2, 260, .inl g20)), ((R 21), .inl (Y 0, 260, .inl g21))]) (st := []) X (c_X11_look l D Y m R v0 v7 v8 v9 v15 p3 v17 v18 z3 v27 v31 v32 v33 v34 v38 v42 v44 a14 L c q3 tv15 tp3 hL (by omega) hCH) 0 gX11_product_X11_look rfl (by decide +kernel) ⟨rfl, rfl⟩ ⟨(by simp only [headSpec]; omega), (by simp only [headSpec]; omega)⟩ [2, 3] [0, 1] rfl rfl rfl rfl (by decide) (ci := 10) rfl rfl 0 rfl rfl rfl (Nat.le_of_ble_eq_true rfl) ⟨Nat.le_of_ble_eq_true rfl, Nat.le_of_ble_eq_true rfl⟩ dX11_product_30 (fun v_30 w_30 h_30 => ?_)
          obtain ⟨r_116, rfl, rfl, hhpk_117⟩ := h_30
          refine V_to (pc' := 33) (ls' := [(0, .ref m)]) (st' := [.int r_116]) (ws' := [((R 20), .inl (Y 2, 260, .inl g20)), ((R 21), .inl (Y 0, 260, .inl g21)), (m, .inr (10, mF R v0 v7 v8 v9 v15 p3 v17 v18 z3 v27 v31 v32 v33 v34 v38 v42 v44)), ((R 14), .inl (Y 2, 120, .inl a14))]) ?_ rfl rfl rfl rfl
          refine V_bipush (v := (37 : Int32)) X (by decide) dX11_product_33 ?_
          refine V_icmp_ne X rfl (show (37 : Int32).toInt = 37 from by decide) 66 dX11_product_35 (by decide) (fun c_35 => ?_) (fun c_35 => ?_)
          · refine V_ws (ws' := [(m, .inr (10, mF R v0 v7 v8 v9 v15 p3 v17 v18 z3 v27 v31 v32 v33 v34 v38 v42 v44)), ((R 14), .inl (Y 2, 120, .inl a14)), ((R 20), .inl (Y 2, 260, .inl g20)), ((R 21), .inl (Y 0, 260, .inl g21))]) [2, 3, 0, 1] rfl rfl rfl ?_
            exact V_vret X hr dX11_product_66 (Or.inl ⟨q3, ts3, p3, z3, g20, g21, rfl, rfl, tp3, (pLp_x hP3 (Or.inr (fun h => by have h9 := lv4.mp h; omega))), hqb3, hMC3⟩)
          · have hcc : c q3 = 42 ∨ c q3 = 47 ∨ c q3 = 37 := by omega
            have hlc : lvC (c q3) = ((4 : Nat) : Int) := lv4.mpr hcc
            have hlv : 0 ≤ lvC (c q3) := by omega
            have hqlt := MCHR_lt hCH (show c q3 ≠ -1 by omega)
            refine V_aload_n X 0 rfl dX11_product_38 ?_
            refine V_callV (C := RX11) (wr := [((R 20), .inl (Y 2, 260, .inl g20)), ((R 21), .inl (Y 0, 260, .inl g21))]) (st := []) X (c_X11_look l D Y m R v0 v7 v8 v9 v15 p3 v17 v18 z3 v27 v31 v32 v33 v34 v38 v42 v44 a14 L c q3 tv15 tp3 hL (by omega) hCH) 0 gX11_product_X11_look rfl (by decide +kernel) ⟨rfl, rfl⟩ ⟨(by simp only [headSpec]; omega), (by simp only [headSpec]; omega)⟩ [2, 3] [0, 1] rfl rfl rfl rfl (by decide) (ci := 10) rfl rfl 0 rfl rfl rfl (Nat.le_of_ble_eq_true rfl) ⟨Nat.le_of_ble_eq_true rfl, Nat.le_of_ble_eq_true rfl⟩ dX11_product_39 (fun v_39 w_39 h_39 => ?_)
            obtain ⟨r_119, rfl, rfl, hhpk_120⟩ := h_39
            refine V_to (pc' := 42) (ls' := [(0, .ref m)]) (st' := [.int r_119]) (ws' := [((R 20), .inl (Y 2, 260, .inl g20)), ((R 21), .inl (Y 0, 260, .inl g21)), (m, .inr (10, mF R v0 v7 v8 v9 v15 p3 v17 v18 z3 v27 v31 v32 v33 v34 v38 v42 v44)), ((R 14), .inl (Y 2, 120, .inl a14))]) ?_ rfl rfl rfl rfl
            refine V_istore_n (ls' := [(1, .int r_119), (0, .ref m)]) X (by decide) rfl dX11_product_42 ?_
            refine V_aload_n X 1 rfl dX11_product_43 ?_
            refine V_dup X rfl dX11_product_44 ?_
            refine V_get (C := RX11) (T := TX11) (N := 50) (ci := 10) (v := .int p3) X in_X11_product_X11 2 rfl rfl 16 (by decide) (List.mem_of_getElem? (i := 2) rfl) rfl rfl dX11_product_45 ?_
            refine V_iconst (v := (1 : Int32)) X (by decide) dX11_product_48 ?_
            refine V_iaddZ X tp3 (show (1 : Int32).toInt = 1 from by decide) (by omega) (by omega) dX11_product_49 (fun x_121 ex_121 tx_121 => ?_)
            have tx_121 : x_121.toInt = (((q3 + 1) : Nat) : Int) := by omega
            refine V_put (C := RX11) (T := TX11) (N := 50) (ci := 10) (v := .int x_121) (ty := tyX11 16) (ws' := [((R 20), .inl (Y 2, 260, .inl g20)), ((R 21), .inl (Y 0, 260, .inl g21)), (m, .inr (10, mF R v0 v7 v8 v9 v15 x_121 v17 v18 z3 v27 v31 v32 v33 v34 v38 v42 v44)), ((R 14), .inl (Y 2, 120, .inl a14))]) X in_X11_product_X11 2 rfl rfl 16 (by decide) (List.mem_of_getElem? (i := 2) rfl) rfl tyX11 tyX11_ok nmX11 rfl (tyX11_ok 16 (by decide)) rfl rfl (Nat.le_of_ble_eq_true rfl) rfl dX11_product_50 ?_
            refine V_aload_n X 1 rfl dX11_product_53 ?_
            refine V_callV (C := RX11) (wr := []) (st := []) X (mhO l D Y m R v0 v7 v8 v9 v15 x_121 v17 v18 z3 v27 v31 v32 v33 v34 v38 v42 v44 a14 g20 g21 L c (q3 + 1) lo20 lo21 (t0 ++ ts3.map mkT) opn tv15 tx_121 hL (by omega) hCH tv17 hMC3 tv18 (by rw [List.length_append, List.length_map]; omega) hok) 0 gX11_product_X11_operand rfl (by decide +kernel) ⟨rfl, rfl⟩ ⟨(by simp only [headSpec]; omega), (by simp only [headSpec]; omega)⟩ [2, 3, 0, 1] [] rfl rfl rfl rfl (by decide) (ci := 10) rfl rfl 0 rfl rfl rfl (Nat.le_of_ble_eq_true rfl) ⟨Nat.le_of_ble_eq_true rfl, Nat.le_of_ble_eq_true rfl⟩ dX11_product_54 (fun v_54 w_54 h_54 => ?_)
            rcases h_54 with ⟨q_g, ts_g, z16_g, z19_g, b20_g, b21_g, rfl, rfl, tz16_g, hR_g, hqb_g, hMC2_g⟩ | ⟨q_g, l2_g, z16_g, z17_g, z18_g, z19_g, b20_g, b21_g, rfl, rfl, tz16_g, tz17_g, hR_g, hqL_g, tz19_g, hl2_g, hLO2_g⟩
            · refine V_to (pc' := 57) (ls' := [(1, .int r_119), (0, .ref m)]) (st' := []) (ws' := [(m, .inr (10, mF R v0 v7 v8 v9 v15 z16_g v17 v18 z19_g v27 v31 v32 v33 v34 v38 v42 v44)), ((R 14), .inl (Y 2, 120, .inl a14)), ((R 20), .inl (Y 2, 260, .inl b20_g)), ((R 21), .inl (Y 0, 260, .inl b21_g))]) ?_ rfl rfl rfl rfl
              refine V_aload_n X 1 rfl dX11_product_57 ?_
              refine V_iload_n X 0 rfl dX11_product_58 ?_
              refine V_iconst (v := (0 : Int32)) X (by decide) dX11_product_59 ?_
              have hsg : r_119.toInt = c q3 := by omega
              refine V_callV (C := RX11) (wr := [((R 14), .inl (Y 2, 120, .inl a14))]) (st := []) X (c_X11_addStep l D Y m R v0 v7 v8 v9 v15 z16_g v17 v18 z19_g v27 v31 v32 v33 v34 v38 v42 v44 b20_g b21_g lo20 lo21 ((t0 ++ ts3.map mkT) ++ ts_g.map mkT) r_119 (0 : Int32) hMC2_g (by rw [List.length_append, List.length_append, List.length_map, List.length_map]; omega) (by omega)) 2 gX11_product_X11_addStep rfl (by decide +kernel) ⟨rfl, rfl⟩ ⟨(by simp only [headSpec]; omega), (by simp only [headSpec]; omega)⟩ [0, 2, 3] [1] rfl rfl rfl rfl (by decide) (ci := 10) rfl rfl 0 rfl rfl rfl (Nat.le_of_ble_eq_true rfl) ⟨Nat.le_of_ble_eq_true rfl, Nat.le_of_ble_eq_true rfl⟩ dX11_product_60 (fun v_60 w_60 h_60 => ?_)
              obtain ⟨z19_a, b20_a, b21_a, rfl, rfl, hMC2_a⟩ := h_60
              refine V_to (pc' := 63) (ls' := [(1, .int r_119), (0, .ref m)]) (st' := []) (ws' := [((R 14), .inl (Y 2, 120, .inl a14)), (m, .inr (10, mF R v0 v7 v8 v9 v15 z16_g v17 v18 z19_a v27 v31 v32 v33 v34 v38 v42 v44)), ((R 20), .inl (Y 2, 260, .inl b20_a)), ((R 21), .inl (Y 0, 260, .inl b21_a))]) ?_ rfl rfl rfl rfl
              have hc_0 : (0 : Int32).toInt = 0 := by decide
              refine V_goto X 4 (by decide) dX11_product_63 ?_
              refine V_ls (ls' := [(0, .ref m)]) [1] rfl ?_
              refine V_ws (ws' := [(m, .inr (10, mF R v0 v7 v8 v9 v15 z16_g v17 v18 z19_a v27 v31 v32 v33 v34 v38 v42 v44)), ((R 14), .inl (Y 2, 120, .inl a14)), ((R 20), .inl (Y 2, 260, .inl b20_a)), ((R 21), .inl (Y 0, 260, .inl b21_a))]) [1, 0, 2, 3] rfl rfl rfl ?_
              exact V_to (ih_4 (i + 1) z16_g q_g z19_a b20_a b21_a (ts3 ++ ts_g ++ [(c q3, 0)]) ⟨tz16_g, (by omega), (by rw [List.length_append, List.length_append, List.length_singleton]; omega), (by have h9 := hMC2_a; rw [hsg, show (0 : Int32).toInt = 0 from by decide, mpush hlv] at h9; exact h9), (by rw [show 120 - (i + 1) = 120 - i - 1 by omega]; exact pLp_y hP3 (by omega) hlc hR_g (by omega))⟩ (by omega)) rfl rfl rfl rfl
            · refine V_to (pc' := 57) (ls' := [(1, .int r_119), (0, .ref m)]) (st' := []) (ws' := [(m, .inr (10, mF R v0 v7 v8 v9 v15 z16_g z17_g z18_g z19_g v27 v31 v32 v33 v34 v38 v42 v44)), ((R 14), .inl (Y 2, 120, .inl a14)), ((R 20), .inl (Y 2, 260, .inl b20_g)), ((R 21), .inl (Y 0, 260, .inl b21_g))]) ?_ rfl rfl rfl rfl
              refine V_aload_n X 1 rfl dX11_product_57 ?_
              refine V_iload_n X 0 rfl dX11_product_58 ?_
              refine V_iconst (v := (0 : Int32)) X (by decide) dX11_product_59 ?_
              have hsg : r_119.toInt = c q3 := by omega
              refine V_callV (C := RX11) (wr := [((R 14), .inl (Y 2, 120, .inl a14))]) (st := []) X (c_X11_addStepD l D Y m R v0 v7 v8 v9 v15 z16_g z17_g z18_g z19_g v27 v31 v32 v33 v34 v38 v42 v44 b20_g b21_g lo20 lo21 l2_g r_119 (0 : Int32) tz19_g hLO2_g (by rw [List.length_append, List.length_map] at hl2_g; omega)) 2 gX11_product_X11_addStep rfl (by decide +kernel) ⟨rfl, rfl⟩ ⟨(by simp only [headSpec]; omega), (by simp only [headSpec]; omega)⟩ [0, 2, 3] [1] rfl rfl rfl rfl (by decide) (ci := 10) rfl rfl 0 rfl rfl rfl (Nat.le_of_ble_eq_true rfl) ⟨Nat.le_of_ble_eq_true rfl, Nat.le_of_ble_eq_true rfl⟩ dX11_product_60 (fun v_60 w_60 h_60 => ?_)
              obtain ⟨z19_a, b20_a, b21_a, rfl, rfl, tz19_a, hLO2_a⟩ := h_60
              refine V_to (pc' := 63) (ls' := [(1, .int r_119), (0, .ref m)]) (st' := []) (ws' := [((R 14), .inl (Y 2, 120, .inl a14)), (m, .inr (10, mF R v0 v7 v8 v9 v15 z16_g z17_g z18_g z19_a v27 v31 v32 v33 v34 v38 v42 v44)), ((R 20), .inl (Y 2, 260, .inl b20_a)), ((R 21), .inl (Y 0, 260, .inl b21_a))]) ?_ rfl rfl rfl rfl
              refine V_goto X 4 (by decide) dX11_product_63 ?_
              refine V_aload_n X 1 rfl dX11_product_4 ?_
              refine V_get (C := RX11) (T := TX11) (N := 50) (ci := 10) (v := .int z17_g) X in_X11_product_X11 1 rfl rfl 17 (by decide) (List.mem_of_getElem? (i := 1) rfl) rfl rfl dX11_product_5 ?_
              refine V_if_ge X tz17_g 66 dX11_product_8 (by decide) (fun c_8 => ?_) (fun c_8 => False.elim (by omega))
              refine V_ws (ws' := [(m, .inr (10, mF R v0 v7 v8 v9 v15 z16_g z17_g z18_g z19_a v27 v31 v32 v33 v34 v38 v42 v44)), ((R 14), .inl (Y 2, 120, .inl a14)), ((R 20), .inl (Y 2, 260, .inl b20_a)), ((R 21), .inl (Y 0, 260, .inl b21_a))]) [1, 0, 2, 3] rfl rfl rfl ?_
              exact V_vret X hr dX11_product_66 (Or.inr (⟨q_g, (l2_g + 1), z16_g, z17_g, z18_g, z19_a, b20_a, b21_a, rfl, rfl, tz16_g, tz17_g, (pLp_n hP3 (by omega) hlc hR_g), hqL_g, tz19_a, (by rw [List.length_append, List.length_map] at hl2_g; omega), hLO2_a⟩))
    · exact ⟨tz16_f, (by omega), hqb_f, hMC2_f, (show pLp c (pTm c (pOp c k) 0) 4 120 q_f ts_f = pBd _ _ from (pBd_s hR_f).symm)⟩
  · refine V_to (pc' := 4) (ls' := [(0, .ref m)]) (st' := []) (ws' := [(m, .inr (10, mF R v0 v7 v8 v9 v15 z16_f z17_f z18_f z19_f v27 v31 v32 v33 v34 v38 v42 v44)), ((R 14), .inl (Y 2, 120, .inl a14)), ((R 20), .inl (Y 2, 260, .inl b20_f)), ((R 21), .inl (Y 0, 260, .inl b21_f))]) ?_ rfl rfl rfl rfl
    refine V_aload_n X 0 rfl dX11_product_4 ?_
    refine V_get (C := RX11) (T := TX11) (N := 50) (ci := 10) (v := .int z17_f) X in_X11_product_X11 0 rfl rfl 17 (by decide) (List.mem_of_getElem? (i := 1) rfl) rfl rfl dX11_product_5 ?_
    refine V_if_ge X tz17_f 66 dX11_product_8 (by decide) (fun c_8 => ?_) (fun c_8 => False.elim (by omega))
    exact V_vret X hr dX11_product_66 (Or.inr (⟨q_f, l2_f, z16_f, z17_f, z18_f, z19_f, b20_f, b21_f, rfl, rfl, tz16_f, tz17_f, (pBd_n hR_f), hqL_f, tz19_f, hl2_f, hLO2_f⟩))

theorem in_X11_sum_X11 : ∀ w ∈ wsX110, w ∈ wsX11_sum := fun w h => List.mem_cons_of_mem _ (List.mem_append_right _ h)
set_option maxHeartbeats 4000000 in
set_option maxRecDepth 100000 in
theorem c_X11_sum (l : Launch) (D : va_G) (Y : Nat → ClassId) (m : Nat) (R : Nat → Nat) (v0 : Int32) (v7 : Int32) (v8 : Int32) (v9 : Int32) (v15 : Int32) (v16 : Int32) (v17 : Int32) (v18 : Int32) (v19 : Int32) (v27 : Int32) (v31 : Int32) (v32 : Int32) (v33 : Int32) (v34 : Int32) (v38 : Int32) (v42 : Int32) (v44 : Int32) (a14 : Nat → Int32) (a20 : Nat → Int32) (a21 : Nat → Int32) (L : Nat) (c : Nat → Int) (pos : Nat) (lo20 : Nat → Int32) (lo21 : Nat → Int32) (t0 : List Tok) (opn : Nat) (k : Nat) (tv15 : v15.toInt = ((L : Nat) : Int)) (tv16 : v16.toInt = ((pos : Nat) : Int)) (hL : L ≤ 120) (hpL : pos ≤ L) (hCH : MCHR a14 L c) (tv17 : v17.toInt = (-1)) (hMC : MC lo20 lo21 a20 a21 v19 t0) (tv18 : v18.toInt = ((opn : Nat) : Int)) (htp : t0.length ≤ pos) (hok : opn + k = 6) (mhO : ∀ (l : Launch) (D : va_G) (Y : Nat → ClassId) (m : Nat) (R : Nat → Nat) (v0 : Int32) (v7 : Int32) (v8 : Int32) (v9 : Int32) (v15 : Int32) (v16 : Int32) (v17 : Int32) (v18 : Int32) (v19 : Int32) (v27 : Int32) (v31 : Int32) (v32 : Int32) (v33 : Int32) (v34 : Int32) (v38 : Int32) (v42 : Int32) (v44 : Int32) (a14 : Nat → Int32) (a20 : Nat → Int32) (a21 : Nat → Int32) (L : Nat) (c : Nat → Int) (pos : Nat) (lo20 : Nat → Int32) (lo21 : Nat → Int32) (t0 : List Tok) (opn : Nat) (tv15 : v15.toInt = ((L : Nat) : Int)) (tv16 : v16.toInt = ((pos : Nat) : Int)) (hL : L ≤ 120) (hpL : pos ≤ L) (hCH : MCHR a14 L c) (tv17 : v17.toInt = (-1)) (hMC : MC lo20 lo21 a20 a21 v19 t0) (tv18 : v18.toInt = ((opn : Nat) : Int)) (htp : t0.length ≤ pos) (hok : opn + k = 6), Mg l yX11_operand wsX11_operand ({ frames := 6 * (k) + 4, cells := 0, slots := 0, locals := 132 * (k) + 70 }) D Y [(m, .inr (10, mF R v0 v7 v8 v9 v15 v16 v17 v18 v19 v27 v31 v32 v33 v34 v38 v42 v44)), ((R 14), .inl (Y 2, 120, .inl a14)), ((R 20), .inl (Y 2, 260, .inl a20)), ((R 21), .inl (Y 0, 260, .inl a21))] [.ref m] 0 0 (fun vv__ ww__ => (∃ (q : Nat), ∃ (ts : List Tok), ∃ (z16 : Int32), ∃ (z19 : Int32), ∃ (b20 : Nat → Int32), ∃ (b21 : Nat → Int32), vv__ = none ∧ ww__ = [(m, .inr (10, mF R v0 v7 v8 v9 v15 z16 v17 v18 z19 v27 v31 v32 v33 v34 v38 v42 v44)), ((R 14), .inl (Y 2, 120, .inl a14)), ((R 20), .inl (Y 2, 260, .inl b20)), ((R 21), .inl (Y 0, 260, .inl b21))] ∧ (z16.toInt = ((q : Nat) : Int)) ∧ (pOp c k pos = (q, some ts)) ∧ (pos + ts.length ≤ q ∧ q ≤ L) ∧ (MC lo20 lo21 b20 b21 z19 (t0 ++ ts.map mkT))) ∨ (∃ (q : Nat), ∃ (l2 : Nat), ∃ (z16 : Int32), ∃ (z17 : Int32), ∃ (z18 : Int32), ∃ (z19 : Int32), ∃ (b20 : Nat → Int32), ∃ (b21 : Nat → Int32), vv__ = none ∧ ww__ = [(m, .inr (10, mF R v0 v7 v8 v9 v15 z16 z17 z18 z19 v27 v31 v32 v33 v34 v38 v42 v44)), ((R 14), .inl (Y 2, 120, .inl a14)), ((R 20), .inl (Y 2, 260, .inl b20)), ((R 21), .inl (Y 0, 260, .inl b21))] ∧ (z16.toInt = ((q : Nat) : Int)) ∧ (z17.toInt = ((q : Nat) : Int)) ∧ (pOp c k pos = (q, none)) ∧ (q ≤ L) ∧ (z19.toInt = ((l2 : Nat) : Int)) ∧ (l2 + pos ≤ t0.length + q + 1) ∧ (LO lo20 lo21 b20 b21)))) : Mg l yX11_sum wsX11_sum ({ frames := 6 * (k) + 4 + 2, cells := 0, slots := 0, locals := 132 * (k) + 70 + 22 * 2 }) D Y [(m, .inr (10, mF R v0 v7 v8 v9 v15 v16 v17 v18 v19 v27 v31 v32 v33 v34 v38 v42 v44)), ((R 14), .inl (Y 2, 120, .inl a14)), ((R 20), .inl (Y 2, 260, .inl a20)), ((R 21), .inl (Y 0, 260, .inl a21))] [.ref m] 0 0 (fun vv__ ww__ => (∃ (q : Nat), ∃ (ts : List Tok), ∃ (z16 : Int32), ∃ (z19 : Int32), ∃ (b20 : Nat → Int32), ∃ (b21 : Nat → Int32), vv__ = none ∧ ww__ = [(m, .inr (10, mF R v0 v7 v8 v9 v15 z16 v17 v18 z19 v27 v31 v32 v33 v34 v38 v42 v44)), ((R 14), .inl (Y 2, 120, .inl a14)), ((R 20), .inl (Y 2, 260, .inl b20)), ((R 21), .inl (Y 0, 260, .inl b21))] ∧ (z16.toInt = ((q : Nat) : Int)) ∧ (pTm c (pOp c k) 2 pos = (q, some ts)) ∧ (pos + ts.length ≤ q ∧ q ≤ L) ∧ (MC lo20 lo21 b20 b21 z19 (t0 ++ ts.map mkT))) ∨ (∃ (q : Nat), ∃ (l2 : Nat), ∃ (z16 : Int32), ∃ (z17 : Int32), ∃ (z18 : Int32), ∃ (z19 : Int32), ∃ (b20 : Nat → Int32), ∃ (b21 : Nat → Int32), vv__ = none ∧ ww__ = [(m, .inr (10, mF R v0 v7 v8 v9 v15 z16 z17 z18 z19 v27 v31 v32 v33 v34 v38 v42 v44)), ((R 14), .inl (Y 2, 120, .inl a14)), ((R 20), .inl (Y 2, 260, .inl b20)), ((R 21), .inl (Y 0, 260, .inl b21))] ∧ (z16.toInt = ((q : Nat) : Int)) ∧ (z17.toInt = ((q : Nat) : Int)) ∧ (pTm c (pOp c k) 2 pos = (q, none)) ∧ (q ≤ L) ∧ (z19.toInt = ((l2 : Nat) : Int)) ∧ (l2 + pos ≤ t0.length + q + 1) ∧ (LO lo20 lo21 b20 b21))) := by
  refine Mg_of (cc := cX11_sum) (maxL := 2) (ret := none) (ls0 := [(0, .ref m)]) RX11 (by decide) rfl rfl rfl (Nat.le_of_ble_eq_true rfl) (fun p__ e__ s__ m__ b__ t__ c__ X hr hn => ?_)
  refine V_aload_n X 0 rfl dX11_sum_0 ?_
  refine V_callV (C := RX11) (wr := []) (st := []) X (c_X11_product l D Y m R v0 v7 v8 v9 v15 v16 v17 v18 v19 v27 v31 v32 v33 v34 v38 v42 v44 a14 a20 a21 L c pos lo20 lo21 t0 opn k tv15 tv16 hL hpL hCH tv17 hMC tv18 htp hok mhO) 0 gX11_sum_X11_product rfl (by decide +kernel) ⟨rfl, rfl⟩ ⟨(by simp only [headSpec]; omega), (by simp only [headSpec]; omega)⟩ [0, 1, 2, 3] [] rfl rfl rfl rfl (by decide) (ci := 10) rfl rfl 0 rfl rfl rfl (Nat.le_of_ble_eq_true rfl) ⟨Nat.le_of_ble_eq_true rfl, Nat.le_of_ble_eq_true rfl⟩ dX11_sum_1 (fun v_1 w_1 h_1 => ?_)
  rcases h_1 with ⟨q_f, ts_f, z16_f, z19_f, b20_f, b21_f, rfl, rfl, tz16_f, hR_f, hqb_f, hMC2_f⟩ | ⟨q_f, l2_f, z16_f, z17_f, z18_f, z19_f, b20_f, b21_f, rfl, rfl, tz16_f, tz17_f, hR_f, hqL_f, tz19_f, hl2_f, hLO2_f⟩
  · refine V_to (pc' := 4) (ls' := [(0, .ref m)]) (st' := []) (ws' := [(m, .inr (10, mF R v0 v7 v8 v9 v15 z16_f v17 v18 z19_f v27 v31 v32 v33 v34 v38 v42 v44)), ((R 14), .inl (Y 2, 120, .inl a14)), ((R 20), .inl (Y 2, 260, .inl b20_f)), ((R 21), .inl (Y 0, 260, .inl b21_f))]) ?_ rfl rfl rfl rfl
    refine V_to (V_ind7 (fun (i : Nat) (p3 : Int32) (q3 : Nat) (z3 : Int32) (g20 : Nat → Int32) (g21 : Nat → Int32) (ts3 : List Tok) => (p3.toInt = ((q3 : Nat) : Int)) ∧ (i ≤ 120 ∧ pos + i ≤ q3) ∧ (pos + ts3.length ≤ q3 ∧ q3 ≤ L) ∧ (MC lo20 lo21 g20 g21 z3 (t0 ++ ts3.map mkT)) ∧ (pLp c (pTm c (pOp c k) 1) 3 (120 - i) q3 ts3 = pTm c (pOp c k) 2 pos)) (fun (i : Nat) (p3 : Int32) (q3 : Nat) (z3 : Int32) (g20 : Nat → Int32) (g21 : Nat → Int32) (ts3 : List Tok) => 120 - i) (fun (i : Nat) (p3 : Int32) (q3 : Nat) (z3 : Int32) (g20 : Nat → Int32) (g21 : Nat → Int32) (ts3 : List Tok) => [(0, .ref m)]) (fun (i : Nat) (p3 : Int32) (q3 : Nat) (z3 : Int32) (g20 : Nat → Int32) (g21 : Nat → Int32) (ts3 : List Tok) => [(m, .inr (10, mF R v0 v7 v8 v9 v15 p3 v17 v18 z3 v27 v31 v32 v33 v34 v38 v42 v44)), ((R 14), .inl (Y 2, 120, .inl a14)), ((R 20), .inl (Y 2, 260, .inl g20)), ((R 21), .inl (Y 0, 260, .inl g21))]) (fun i p3 q3 z3 g20 g21 ts3 hI_4 ih_4 => ?_) 0 z16_f q_f z19_f b20_f b21_f ts_f ?_) rfl rfl rfl rfl
    · obtain ⟨tp3, hi3, hqb3, hMC3, hP3⟩ := hI_4
      refine V_to (ls' := [(0, .ref m)]) (ws' := [(m, .inr (10, mF R v0 v7 v8 v9 v15 p3 v17 v18 z3 v27 v31 v32 v33 v34 v38 v42 v44)), ((R 14), .inl (Y 2, 120, .inl a14)), ((R 20), .inl (Y 2, 260, .inl g20)), ((R 21), .inl (Y 0, 260, .inl g21))]) ?_ rfl rfl rfl rfl
      refine V_aload_n X 0 rfl dX11_sum_4 ?_
      refine V_get (C := RX11) (T := TX11) (N := 50) (ci := 10) (v := .int v17) X in_X11_sum_X11 0 rfl rfl 17 (by decide) (List.mem_of_getElem? (i := 1) rfl) rfl rfl dX11_sum_5 ?_
      refine V_if_ge X tv17 57 dX11_sum_8 (by decide) (fun c_8 => absurd c_8 (by decide)) (fun _ => ?_)
      refine V_aload_n X 0 rfl dX11_sum_11 ?_
      refine V_callV (C := RX11) (wr := [((R 20), .inl (Y 2, 260, .inl g20)), ((R 21), .inl (Y 0, 260, .inl g21))]) (st := []) X (c_X11_look l D Y m R v0 v7 v8 v9 v15 p3 v17 v18 z3 v27 v31 v32 v33 v34 v38 v42 v44 a14 L c q3 tv15 tp3 hL (by omega) hCH) 0 gX11_sum_X11_look rfl (by decide +kernel) ⟨rfl, rfl⟩ ⟨(by simp only [headSpec]; omega), (by simp only [headSpec]; omega)⟩ [0, 1] [2, 3] rfl rfl rfl rfl (by decide) (ci := 10) rfl rfl 0 rfl rfl rfl (Nat.le_of_ble_eq_true rfl) ⟨Nat.le_of_ble_eq_true rfl, Nat.le_of_ble_eq_true rfl⟩ dX11_sum_12 (fun v_12 w_12 h_12 => ?_)
      obtain ⟨r_28, rfl, rfl, hhpk_29⟩ := h_12
      refine V_to (pc' := 15) (ls' := [(0, .ref m)]) (st' := [.int r_28]) (ws' := [((R 20), .inl (Y 2, 260, .inl g20)), ((R 21), .inl (Y 0, 260, .inl g21)), (m, .inr (10, mF R v0 v7 v8 v9 v15 p3 v17 v18 z3 v27 v31 v32 v33 v34 v38 v42 v44)), ((R 14), .inl (Y 2, 120, .inl a14))]) ?_ rfl rfl rfl rfl
      refine V_bipush (v := (43 : Int32)) X (by decide) dX11_sum_15 ?_
      refine V_icmp_eq X rfl (show (43 : Int32).toInt = 43 from by decide) 29 dX11_sum_17 (by decide) (fun c_17 => ?_) (fun c_17 => ?_)
      · have hcc : c q3 = 43 ∨ c q3 = 45 := by omega
        have hlc : lvC (c q3) = ((3 : Nat) : Int) := lv3.mpr hcc
        have hlv : 0 ≤ lvC (c q3) := by omega
        have hqlt := MCHR_lt hCH (show c q3 ≠ -1 by omega)
        refine V_aload_n X 0 rfl dX11_sum_29 ?_
        refine V_callV (C := RX11) (wr := [((R 20), .inl (Y 2, 260, .inl g20)), ((R 21), .inl (Y 0, 260, .inl g21))]) (st := []) X (c_X11_look l D Y m R v0 v7 v8 v9 v15 p3 v17 v18 z3 v27 v31 v32 v33 v34 v38 v42 v44 a14 L c q3 tv15 tp3 hL (by omega) hCH) 0 gX11_sum_X11_look rfl (by decide +kernel) ⟨rfl, rfl⟩ ⟨(by simp only [headSpec]; omega), (by simp only [headSpec]; omega)⟩ [2, 3] [0, 1] rfl rfl rfl rfl (by decide) (ci := 10) rfl rfl 0 rfl rfl rfl (Nat.le_of_ble_eq_true rfl) ⟨Nat.le_of_ble_eq_true rfl, Nat.le_of_ble_eq_true rfl⟩ dX11_sum_30 (fun v_30 w_30 h_30 => ?_)
        obtain ⟨r_31, rfl, rfl, hhpk_32⟩ := h_30
        refine V_to (pc' := 33) (ls' := [(0, .ref m)]) (st' := [.int r_31]) (ws' := [((R 20), .inl (Y 2, 260, .inl g20)), ((R 21), .inl (Y 0, 260, .inl g21)), (m, .inr (10, mF R v0 v7 v8 v9 v15 p3 v17 v18 z3 v27 v31 v32 v33 v34 v38 v42 v44)), ((R 14), .inl (Y 2, 120, .inl a14))]) ?_ rfl rfl rfl rfl
        refine V_istore_n (ls' := [(1, .int r_31), (0, .ref m)]) X (by decide) rfl dX11_sum_33 ?_
        refine V_aload_n X 1 rfl dX11_sum_34 ?_
        refine V_dup X rfl dX11_sum_35 ?_
        refine V_get (C := RX11) (T := TX11) (N := 50) (ci := 10) (v := .int p3) X in_X11_sum_X11 2 rfl rfl 16 (by decide) (List.mem_of_getElem? (i := 2) rfl) rfl rfl dX11_sum_36 ?_
        refine V_iconst (v := (1 : Int32)) X (by decide) dX11_sum_39 ?_
        refine V_iaddZ X tp3 (show (1 : Int32).toInt = 1 from by decide) (by omega) (by omega) dX11_sum_40 (fun x_33 ex_33 tx_33 => ?_)
        have tx_33 : x_33.toInt = (((q3 + 1) : Nat) : Int) := by omega
        refine V_put (C := RX11) (T := TX11) (N := 50) (ci := 10) (v := .int x_33) (ty := tyX11 16) (ws' := [((R 20), .inl (Y 2, 260, .inl g20)), ((R 21), .inl (Y 0, 260, .inl g21)), (m, .inr (10, mF R v0 v7 v8 v9 v15 x_33 v17 v18 z3 v27 v31 v32 v33 v34 v38 v42 v44)), ((R 14), .inl (Y 2, 120, .inl a14))]) X in_X11_sum_X11 2 rfl rfl 16 (by decide) (List.mem_of_getElem? (i := 2) rfl) rfl tyX11 tyX11_ok nmX11 rfl (tyX11_ok 16 (by decide)) rfl rfl (Nat.le_of_ble_eq_true rfl) rfl dX11_sum_41 ?_
        refine V_aload_n X 1 rfl dX11_sum_44 ?_
        refine V_callV (C := RX11) (wr := []) (st := []) X (c_X11_product l D Y m R v0 v7 v8 v9 v15 x_33 v17 v18 z3 v27 v31 v32 v33 v34 v38 v42 v44 a14 g20 g21 L c (q3 + 1) lo20 lo21 (t0 ++ ts3.map mkT) opn k tv15 tx_33 hL (by omega) hCH tv17 hMC3 tv18 (by rw [List.length_append, List.length_map]; omega) hok mhO) 0 gX11_sum_X11_product rfl (by decide +kernel) ⟨rfl, rfl⟩ ⟨(by simp only [headSpec]; omega), (by simp only [headSpec]; omega)⟩ [2, 3, 0, 1] [] rfl rfl rfl rfl (by decide) (ci := 10) rfl rfl 0 rfl rfl rfl (Nat.le_of_ble_eq_true rfl) ⟨Nat.le_of_ble_eq_true rfl, Nat.le_of_ble_eq_true rfl⟩ dX11_sum_45 (fun v_45 w_45 h_45 => ?_)
        rcases h_45 with ⟨q_g, ts_g, z16_g, z19_g, b20_g, b21_g, rfl, rfl, tz16_g, hR_g, hqb_g, hMC2_g⟩ | ⟨q_g, l2_g, z16_g, z17_g, z18_g, z19_g, b20_g, b21_g, rfl, rfl, tz16_g, tz17_g, hR_g, hqL_g, tz19_g, hl2_g, hLO2_g⟩
        · refine V_to (pc' := 48) (ls' := [(1, .int r_31), (0, .ref m)]) (st' := []) (ws' := [(m, .inr (10, mF R v0 v7 v8 v9 v15 z16_g v17 v18 z19_g v27 v31 v32 v33 v34 v38 v42 v44)), ((R 14), .inl (Y 2, 120, .inl a14)), ((R 20), .inl (Y 2, 260, .inl b20_g)), ((R 21), .inl (Y 0, 260, .inl b21_g))]) ?_ rfl rfl rfl rfl
          refine V_aload_n X 1 rfl dX11_sum_48 ?_
          refine V_iload_n X 0 rfl dX11_sum_49 ?_
          refine V_iconst (v := (0 : Int32)) X (by decide) dX11_sum_50 ?_
          have hsg : r_31.toInt = c q3 := by omega
          refine V_callV (C := RX11) (wr := [((R 14), .inl (Y 2, 120, .inl a14))]) (st := []) X (c_X11_addStep l D Y m R v0 v7 v8 v9 v15 z16_g v17 v18 z19_g v27 v31 v32 v33 v34 v38 v42 v44 b20_g b21_g lo20 lo21 ((t0 ++ ts3.map mkT) ++ ts_g.map mkT) r_31 (0 : Int32) hMC2_g (by rw [List.length_append, List.length_append, List.length_map, List.length_map]; omega) (by omega)) 2 gX11_sum_X11_addStep rfl (by decide +kernel) ⟨rfl, rfl⟩ ⟨(by simp only [headSpec]; omega), (by simp only [headSpec]; omega)⟩ [0, 2, 3] [1] rfl rfl rfl rfl (by decide) (ci := 10) rfl rfl 0 rfl rfl rfl (Nat.le_of_ble_eq_true rfl) ⟨Nat.le_of_ble_eq_true rfl, Nat.le_of_ble_eq_true rfl⟩ dX11_sum_51 (fun v_51 w_51 h_51 => ?_)
          obtain ⟨z19_a, b20_a, b21_a, rfl, rfl, hMC2_a⟩ := h_51
          refine V_to (pc' := 54) (ls' := [(1, .int r_31), (0, .ref m)]) (st' := []) (ws' := [((R 14), .inl (Y 2, 120, .inl a14)), (m, .inr (10, mF R v0 v7 v8 v9 v15 z16_g v17 v18 z19_a v27 v31 v32 v33 v34 v38 v42 v44)), ((R 20), .inl (Y 2, 260, .inl b20_a)), ((R 21), .inl (Y 0, 260, .inl b21_a))]) ?_ rfl rfl rfl rfl
          have hc_0 : (0 : Int32).toInt = 0 := by decide
          refine V_goto X 4 (by decide) dX11_sum_54 ?_
          refine V_ls (ls' := [(0, .ref m)]) [1] rfl ?_
          refine V_ws (ws' := [(m, .inr (10, mF R v0 v7 v8 v9 v15 z16_g v17 v18 z19_a v27 v31 v32 v33 v34 v38 v42 v44)), ((R 14), .inl (Y 2, 120, .inl a14)), ((R 20), .inl (Y 2, 260, .inl b20_a)), ((R 21), .inl (Y 0, 260, .inl b21_a))]) [1, 0, 2, 3] rfl rfl rfl ?_
          exact V_to (ih_4 (i + 1) z16_g q_g z19_a b20_a b21_a (ts3 ++ ts_g ++ [(c q3, 0)]) ⟨tz16_g, (by omega), (by rw [List.length_append, List.length_append, List.length_singleton]; omega), (by have h9 := hMC2_a; rw [hsg, show (0 : Int32).toInt = 0 from by decide, mpush hlv] at h9; exact h9), (by rw [show 120 - (i + 1) = 120 - i - 1 by omega]; exact pLp_y hP3 (by omega) hlc hR_g (by omega))⟩ (by omega)) rfl rfl rfl rfl
        · refine V_to (pc' := 48) (ls' := [(1, .int r_31), (0, .ref m)]) (st' := []) (ws' := [(m, .inr (10, mF R v0 v7 v8 v9 v15 z16_g z17_g z18_g z19_g v27 v31 v32 v33 v34 v38 v42 v44)), ((R 14), .inl (Y 2, 120, .inl a14)), ((R 20), .inl (Y 2, 260, .inl b20_g)), ((R 21), .inl (Y 0, 260, .inl b21_g))]) ?_ rfl rfl rfl rfl
          refine V_aload_n X 1 rfl dX11_sum_48 ?_
          refine V_iload_n X 0 rfl dX11_sum_49 ?_
          refine V_iconst (v := (0 : Int32)) X (by decide) dX11_sum_50 ?_
          have hsg : r_31.toInt = c q3 := by omega
          refine V_callV (C := RX11) (wr := [((R 14), .inl (Y 2, 120, .inl a14))]) (st := []) X (c_X11_addStepD l D Y m R v0 v7 v8 v9 v15 z16_g z17_g z18_g z19_g v27 v31 v32 v33 v34 v38 v42 v44 b20_g b21_g lo20 lo21 l2_g r_31 (0 : Int32) tz19_g hLO2_g (by rw [List.length_append, List.length_map] at hl2_g; omega)) 2 gX11_sum_X11_addStep rfl (by decide +kernel) ⟨rfl, rfl⟩ ⟨(by simp only [headSpec]; omega), (by simp only [headSpec]; omega)⟩ [0, 2, 3] [1] rfl rfl rfl rfl (by decide) (ci := 10) rfl rfl 0 rfl rfl rfl (Nat.le_of_ble_eq_true rfl) ⟨Nat.le_of_ble_eq_true rfl, Nat.le_of_ble_eq_true rfl⟩ dX11_sum_51 (fun v_51 w_51 h_51 => ?_)
          obtain ⟨z19_a, b20_a, b21_a, rfl, rfl, tz19_a, hLO2_a⟩ := h_51
          refine V_to (pc' := 54) (ls' := [(1, .int r_31), (0, .ref m)]) (st' := []) (ws' := [((R 14), .inl (Y 2, 120, .inl a14)), (m, .inr (10, mF R v0 v7 v8 v9 v15 z16_g z17_g z18_g z19_a v27 v31 v32 v33 v34 v38 v42 v44)), ((R 20), .inl (Y 2, 260, .inl b20_a)), ((R 21), .inl (Y 0, 260, .inl b21_a))]) ?_ rfl rfl rfl rfl
          refine V_goto X 4 (by decide) dX11_sum_54 ?_
          refine V_aload_n X 1 rfl dX11_sum_4 ?_
          refine V_get (C := RX11) (T := TX11) (N := 50) (ci := 10) (v := .int z17_g) X in_X11_sum_X11 1 rfl rfl 17 (by decide) (List.mem_of_getElem? (i := 1) rfl) rfl rfl dX11_sum_5 ?_
          refine V_if_ge X tz17_g 57 dX11_sum_8 (by decide) (fun c_8 => ?_) (fun c_8 => False.elim (by omega))
          refine V_ws (ws' := [(m, .inr (10, mF R v0 v7 v8 v9 v15 z16_g z17_g z18_g z19_a v27 v31 v32 v33 v34 v38 v42 v44)), ((R 14), .inl (Y 2, 120, .inl a14)), ((R 20), .inl (Y 2, 260, .inl b20_a)), ((R 21), .inl (Y 0, 260, .inl b21_a))]) [1, 0, 2, 3] rfl rfl rfl ?_
          exact V_vret X hr dX11_sum_57 (Or.inr (⟨q_g, (l2_g + 1), z16_g, z17_g, z18_g, z19_a, b20_a, b21_a, rfl, rfl, tz16_g, tz17_g, (pLp_n hP3 (by omega) hlc hR_g), hqL_g, tz19_a, (by rw [List.length_append, List.length_map] at hl2_g; omega), hLO2_a⟩))
      · refine V_aload_n X 0 rfl dX11_sum_20 ?_
        refine V_callV (C := RX11) (wr := [((R 20), .inl (Y 2, 260, .inl g20)), ((R 21), .inl (Y 0, 260, .inl g21))]) (st := []) X (c_X11_look l D Y m R v0 v7 v8 v9 v15 p3 v17 v18 z3 v27 v31 v32 v33 v34 v38 v42 v44 a14 L c q3 tv15 tp3 hL (by omega) hCH) 0 gX11_sum_X11_look rfl (by decide +kernel) ⟨rfl, rfl⟩ ⟨(by simp only [headSpec]; omega), (by simp only [headSpec]; omega)⟩ [2, 3] [0, 1] rfl rfl rfl rfl (by decide) (ci := 10) rfl rfl 0 rfl rfl rfl (Nat.le_of_ble_eq_true rfl) ⟨Nat.le_of_ble_eq_true rfl, Nat.le_of_ble_eq_true rfl⟩ dX11_sum_21 (fun v_21 w_21 h_21 => ?_)
        obtain ⟨r_72, rfl, rfl, hhpk_73⟩ := h_21
        refine V_to (pc' := 24) (ls' := [(0, .ref m)]) (st' := [.int r_72]) (ws' := [((R 20), .inl (Y 2, 260, .inl g20)), ((R 21), .inl (Y 0, 260, .inl g21)), (m, .inr (10, mF R v0 v7 v8 v9 v15 p3 v17 v18 z3 v27 v31 v32 v33 v34 v38 v42 v44)), ((R 14), .inl (Y 2, 120, .inl a14))]) ?_ rfl rfl rfl rfl
        refine V_bipush (v := (45 : Int32)) X (by decide) dX11_sum_24 ?_
        refine V_icmp_ne X rfl (show (45 : Int32).toInt = 45 from by decide) 57 dX11_sum_26 (by decide) (fun c_26 => ?_) (fun c_26 => ?_)
        · refine V_ws (ws' := [(m, .inr (10, mF R v0 v7 v8 v9 v15 p3 v17 v18 z3 v27 v31 v32 v33 v34 v38 v42 v44)), ((R 14), .inl (Y 2, 120, .inl a14)), ((R 20), .inl (Y 2, 260, .inl g20)), ((R 21), .inl (Y 0, 260, .inl g21))]) [2, 3, 0, 1] rfl rfl rfl ?_
          exact V_vret X hr dX11_sum_57 (Or.inl ⟨q3, ts3, p3, z3, g20, g21, rfl, rfl, tp3, (pLp_x hP3 (Or.inr (fun h => by have h9 := lv3.mp h; omega))), hqb3, hMC3⟩)
        · have hcc : c q3 = 43 ∨ c q3 = 45 := by omega
          have hlc : lvC (c q3) = ((3 : Nat) : Int) := lv3.mpr hcc
          have hlv : 0 ≤ lvC (c q3) := by omega
          have hqlt := MCHR_lt hCH (show c q3 ≠ -1 by omega)
          refine V_aload_n X 0 rfl dX11_sum_29 ?_
          refine V_callV (C := RX11) (wr := [((R 20), .inl (Y 2, 260, .inl g20)), ((R 21), .inl (Y 0, 260, .inl g21))]) (st := []) X (c_X11_look l D Y m R v0 v7 v8 v9 v15 p3 v17 v18 z3 v27 v31 v32 v33 v34 v38 v42 v44 a14 L c q3 tv15 tp3 hL (by omega) hCH) 0 gX11_sum_X11_look rfl (by decide +kernel) ⟨rfl, rfl⟩ ⟨(by simp only [headSpec]; omega), (by simp only [headSpec]; omega)⟩ [2, 3] [0, 1] rfl rfl rfl rfl (by decide) (ci := 10) rfl rfl 0 rfl rfl rfl (Nat.le_of_ble_eq_true rfl) ⟨Nat.le_of_ble_eq_true rfl, Nat.le_of_ble_eq_true rfl⟩ dX11_sum_30 (fun v_30 w_30 h_30 => ?_)
          obtain ⟨r_75, rfl, rfl, hhpk_76⟩ := h_30
          refine V_to (pc' := 33) (ls' := [(0, .ref m)]) (st' := [.int r_75]) (ws' := [((R 20), .inl (Y 2, 260, .inl g20)), ((R 21), .inl (Y 0, 260, .inl g21)), (m, .inr (10, mF R v0 v7 v8 v9 v15 p3 v17 v18 z3 v27 v31 v32 v33 v34 v38 v42 v44)), ((R 14), .inl (Y 2, 120, .inl a14))]) ?_ rfl rfl rfl rfl
          refine V_istore_n (ls' := [(1, .int r_75), (0, .ref m)]) X (by decide) rfl dX11_sum_33 ?_
          refine V_aload_n X 1 rfl dX11_sum_34 ?_
          refine V_dup X rfl dX11_sum_35 ?_
          refine V_get (C := RX11) (T := TX11) (N := 50) (ci := 10) (v := .int p3) X in_X11_sum_X11 2 rfl rfl 16 (by decide) (List.mem_of_getElem? (i := 2) rfl) rfl rfl dX11_sum_36 ?_
          refine V_iconst (v := (1 : Int32)) X (by decide) dX11_sum_39 ?_
          refine V_iaddZ X tp3 (show (1 : Int32).toInt = 1 from by decide) (by omega) (by omega) dX11_sum_40 (fun x_77 ex_77 tx_77 => ?_)
          have tx_77 : x_77.toInt = (((q3 + 1) : Nat) : Int) := by omega
          refine V_put (C := RX11) (T := TX11) (N := 50) (ci := 10) (v := .int x_77) (ty := tyX11 16) (ws' := [((R 20), .inl (Y 2, 260, .inl g20)), ((R 21), .inl (Y 0, 260, .inl g21)), (m, .inr (10, mF R v0 v7 v8 v9 v15 x_77 v17 v18 z3 v27 v31 v32 v33 v34 v38 v42 v44)), ((R 14), .inl (Y 2, 120, .inl a14))]) X in_X11_sum_X11 2 rfl rfl 16 (by decide) (List.mem_of_getElem? (i := 2) rfl) rfl tyX11 tyX11_ok nmX11 rfl (tyX11_ok 16 (by decide)) rfl rfl (Nat.le_of_ble_eq_true rfl) rfl dX11_sum_41 ?_
          refine V_aload_n X 1 rfl dX11_sum_44 ?_
          refine V_callV (C := RX11) (wr := []) (st := []) X (c_X11_product l D Y m R v0 v7 v8 v9 v15 x_77 v17 v18 z3 v27 v31 v32 v33 v34 v38 v42 v44 a14 g20 g21 L c (q3 + 1) lo20 lo21 (t0 ++ ts3.map mkT) opn k tv15 tx_77 hL (by omega) hCH tv17 hMC3 tv18 (by rw [List.length_append, List.length_map]; omega) hok mhO) 0 gX11_sum_X11_product rfl (by decide +kernel) ⟨rfl, rfl⟩ ⟨(by simp only [headSpec]; omega), (by simp only [headSpec]; omega)⟩ [2, 3, 0, 1] [] rfl rfl rfl rfl (by decide) (ci := 10) rfl rfl 0 rfl rfl rfl (Nat.le_of_ble_eq_true rfl) ⟨Nat.le_of_ble_eq_true rfl, Nat.le_of_ble_eq_true rfl⟩ dX11_sum_45 (fun v_45 w_45 h_45 => ?_)
          rcases h_45 with ⟨q_g, ts_g, z16_g, z19_g, b20_g, b21_g, rfl, rfl, tz16_g, hR_g, hqb_g, hMC2_g⟩ | ⟨q_g, l2_g, z16_g, z17_g, z18_g, z19_g, b20_g, b21_g, rfl, rfl, tz16_g, tz17_g, hR_g, hqL_g, tz19_g, hl2_g, hLO2_g⟩
          · refine V_to (pc' := 48) (ls' := [(1, .int r_75), (0, .ref m)]) (st' := []) (ws' := [(m, .inr (10, mF R v0 v7 v8 v9 v15 z16_g v17 v18 z19_g v27 v31 v32 v33 v34 v38 v42 v44)), ((R 14), .inl (Y 2, 120, .inl a14)), ((R 20), .inl (Y 2, 260, .inl b20_g)), ((R 21), .inl (Y 0, 260, .inl b21_g))]) ?_ rfl rfl rfl rfl
            refine V_aload_n X 1 rfl dX11_sum_48 ?_
            refine V_iload_n X 0 rfl dX11_sum_49 ?_
            refine V_iconst (v := (0 : Int32)) X (by decide) dX11_sum_50 ?_
            have hsg : r_75.toInt = c q3 := by omega
            refine V_callV (C := RX11) (wr := [((R 14), .inl (Y 2, 120, .inl a14))]) (st := []) X (c_X11_addStep l D Y m R v0 v7 v8 v9 v15 z16_g v17 v18 z19_g v27 v31 v32 v33 v34 v38 v42 v44 b20_g b21_g lo20 lo21 ((t0 ++ ts3.map mkT) ++ ts_g.map mkT) r_75 (0 : Int32) hMC2_g (by rw [List.length_append, List.length_append, List.length_map, List.length_map]; omega) (by omega)) 2 gX11_sum_X11_addStep rfl (by decide +kernel) ⟨rfl, rfl⟩ ⟨(by simp only [headSpec]; omega), (by simp only [headSpec]; omega)⟩ [0, 2, 3] [1] rfl rfl rfl rfl (by decide) (ci := 10) rfl rfl 0 rfl rfl rfl (Nat.le_of_ble_eq_true rfl) ⟨Nat.le_of_ble_eq_true rfl, Nat.le_of_ble_eq_true rfl⟩ dX11_sum_51 (fun v_51 w_51 h_51 => ?_)
            obtain ⟨z19_a, b20_a, b21_a, rfl, rfl, hMC2_a⟩ := h_51
            refine V_to (pc' := 54) (ls' := [(1, .int r_75), (0, .ref m)]) (st' := []) (ws' := [((R 14), .inl (Y 2, 120, .inl a14)), (m, .inr (10, mF R v0 v7 v8 v9 v15 z16_g v17 v18 z19_a v27 v31 v32 v33 v34 v38 v42 v44)), ((R 20), .inl (Y 2, 260, .inl b20_a)), ((R 21), .inl (Y 0, 260, .inl b21_a))]) ?_ rfl rfl rfl rfl
            have hc_0 : (0 : Int32).toInt = 0 := by decide
            refine V_goto X 4 (by decide) dX11_sum_54 ?_
            refine V_ls (ls' := [(0, .ref m)]) [1] rfl ?_
            refine V_ws (ws' := [(m, .inr (10, mF R v0 v7 v8 v9 v15 z16_g v17 v18 z19_a v27 v31 v32 v33 v34 v38 v42 v44)), ((R 14), .inl (Y 2, 120, .inl a14)), ((R 20), .inl (Y 2, 260, .inl b20_a)), ((R 21), .inl (Y 0, 260, .inl b21_a))]) [1, 0, 2, 3] rfl rfl rfl ?_
            exact V_to (ih_4 (i + 1) z16_g q_g z19_a b20_a b21_a (ts3 ++ ts_g ++ [(c q3, 0)]) ⟨tz16_g, (by omega), (by rw [List.length_append, List.length_append, List.length_singleton]; omega), (by have h9 := hMC2_a; rw [hsg, show (0 : Int32).toInt = 0 from by decide, mpush hlv] at h9; exact h9), (by rw [show 120 - (i + 1) = 120 - i - 1 by omega]; exact pLp_y hP3 (by omega) hlc hR_g (by omega))⟩ (by omega)) rfl rfl rfl rfl
          · refine V_to (pc' := 48) (ls' := [(1, .int r_75), (0, .ref m)]) (st' := []) (ws' := [(m, .inr (10, mF R v0 v7 v8 v9 v15 z16_g z17_g z18_g z19_g v27 v31 v32 v33 v34 v38 v42 v44)), ((R 14), .inl (Y 2, 120, .inl a14)), ((R 20), .inl (Y 2, 260, .inl b20_g)), ((R 21), .inl (Y 0, 260, .inl b21_g))]) ?_ rfl rfl rfl rfl
            refine V_aload_n X 1 rfl dX11_sum_48 ?_
            refine V_iload_n X 0 rfl dX11_sum_49 ?_
            refine V_iconst (v := (0 : Int32)) X (by decide) dX11_sum_50 ?_
            have hsg : r_75.toInt = c q3 := by omega
            refine V_callV (C := RX11) (wr := [((R 14), .inl (Y 2, 120, .inl a14))]) (st := []) X (c_X11_addStepD l D Y m R v0 v7 v8 v9 v15 z16_g z17_g z18_g z19_g v27 v31 v32 v33 v34 v38 v42 v44 b20_g b21_g lo20 lo21 l2_g r_75 (0 : Int32) tz19_g hLO2_g (by rw [List.length_append, List.length_map] at hl2_g; omega)) 2 gX11_sum_X11_addStep rfl (by decide +kernel) ⟨rfl, rfl⟩ ⟨(by simp only [headSpec]; omega), (by simp only [headSpec]; omega)⟩ [0, 2, 3] [1] rfl rfl rfl rfl (by decide) (ci := 10) rfl rfl 0 rfl rfl rfl (Nat.le_of_ble_eq_true rfl) ⟨Nat.le_of_ble_eq_true rfl, Nat.le_of_ble_eq_true rfl⟩ dX11_sum_51 (fun v_51 w_51 h_51 => ?_)
            obtain ⟨z19_a, b20_a, b21_a, rfl, rfl, tz19_a, hLO2_a⟩ := h_51
            refine V_to (pc' := 54) (ls' := [(1, .int r_75), (0, .ref m)]) (st' := []) (ws' := [((R 14), .inl (Y 2, 120, .inl a14)), (m, .inr (10, mF R v0 v7 v8 v9 v15 z16_g z17_g z18_g z19_a v27 v31 v32 v33 v34 v38 v42 v44)), ((R 20), .inl (Y 2, 260, .inl b20_a)), ((R 21), .inl (Y 0, 260, .inl b21_a))]) ?_ rfl rfl rfl rfl
            refine V_goto X 4 (by decide) dX11_sum_54 ?_
            refine V_aload_n X 1 rfl dX11_sum_4 ?_
            refine V_get (C := RX11) (T := TX11) (N := 50) (ci := 10) (v := .int z17_g) X in_X11_sum_X11 1 rfl rfl 17 (by decide) (List.mem_of_getElem? (i := 1) rfl) rfl rfl dX11_sum_5 ?_
            refine V_if_ge X tz17_g 57 dX11_sum_8 (by decide) (fun c_8 => ?_) (fun c_8 => False.elim (by omega))
            refine V_ws (ws' := [(m, .inr (10, mF R v0 v7 v8 v9 v15 z16_g z17_g z18_g z19_a v27 v31 v32 v33 v34 v38 v42 v44)), ((R 14), .inl (Y 2, 120, .inl a14)), ((R 20), .inl (Y 2, 260, .inl b20_a)), ((R 21), .inl (Y 0, 260, .inl b21_a))]) [1, 0, 2, 3] rfl rfl rfl ?_
            exact V_vret X hr dX11_sum_57 (Or.inr (⟨q_g, (l2_g + 1), z16_g, z17_g, z18_g, z19_a, b20_a, b21_a, rfl, rfl, tz16_g, tz17_g, (pLp_n hP3 (by omega) hlc hR_g), hqL_g, tz19_a, (by rw [List.length_append, List.length_map] at hl2_g; omega), hLO2_a⟩))
    · exact ⟨tz16_f, (by omega), hqb_f, hMC2_f, (show pLp c (pTm c (pOp c k) 1) 3 120 q_f ts_f = pBd _ _ from (pBd_s hR_f).symm)⟩
  · refine V_to (pc' := 4) (ls' := [(0, .ref m)]) (st' := []) (ws' := [(m, .inr (10, mF R v0 v7 v8 v9 v15 z16_f z17_f z18_f z19_f v27 v31 v32 v33 v34 v38 v42 v44)), ((R 14), .inl (Y 2, 120, .inl a14)), ((R 20), .inl (Y 2, 260, .inl b20_f)), ((R 21), .inl (Y 0, 260, .inl b21_f))]) ?_ rfl rfl rfl rfl
    refine V_aload_n X 0 rfl dX11_sum_4 ?_
    refine V_get (C := RX11) (T := TX11) (N := 50) (ci := 10) (v := .int z17_f) X in_X11_sum_X11 0 rfl rfl 17 (by decide) (List.mem_of_getElem? (i := 1) rfl) rfl rfl dX11_sum_5 ?_
    refine V_if_ge X tz17_f 57 dX11_sum_8 (by decide) (fun c_8 => ?_) (fun c_8 => False.elim (by omega))
    exact V_vret X hr dX11_sum_57 (Or.inr (⟨q_f, l2_f, z16_f, z17_f, z18_f, z19_f, b20_f, b21_f, rfl, rfl, tz16_f, tz17_f, (pBd_n hR_f), hqL_f, tz19_f, hl2_f, hLO2_f⟩))

theorem in_X11_compared_X11 : ∀ w ∈ wsX110, w ∈ wsX11_compared := fun w h => List.mem_cons_of_mem _ (List.mem_append_right _ h)
set_option maxHeartbeats 4000000 in
set_option maxRecDepth 100000 in
theorem c_X11_compared (l : Launch) (D : va_G) (Y : Nat → ClassId) (m : Nat) (R : Nat → Nat) (v0 : Int32) (v7 : Int32) (v8 : Int32) (v9 : Int32) (v15 : Int32) (v16 : Int32) (v17 : Int32) (v18 : Int32) (v19 : Int32) (v27 : Int32) (v31 : Int32) (v32 : Int32) (v33 : Int32) (v34 : Int32) (v38 : Int32) (v42 : Int32) (v44 : Int32) (a14 : Nat → Int32) (a20 : Nat → Int32) (a21 : Nat → Int32) (L : Nat) (c : Nat → Int) (pos : Nat) (lo20 : Nat → Int32) (lo21 : Nat → Int32) (t0 : List Tok) (opn : Nat) (k : Nat) (tv15 : v15.toInt = ((L : Nat) : Int)) (tv16 : v16.toInt = ((pos : Nat) : Int)) (hL : L ≤ 120) (hpL : pos ≤ L) (hCH : MCHR a14 L c) (tv17 : v17.toInt = (-1)) (hMC : MC lo20 lo21 a20 a21 v19 t0) (tv18 : v18.toInt = ((opn : Nat) : Int)) (htp : t0.length ≤ pos) (hok : opn + k = 6) (mhO : ∀ (l : Launch) (D : va_G) (Y : Nat → ClassId) (m : Nat) (R : Nat → Nat) (v0 : Int32) (v7 : Int32) (v8 : Int32) (v9 : Int32) (v15 : Int32) (v16 : Int32) (v17 : Int32) (v18 : Int32) (v19 : Int32) (v27 : Int32) (v31 : Int32) (v32 : Int32) (v33 : Int32) (v34 : Int32) (v38 : Int32) (v42 : Int32) (v44 : Int32) (a14 : Nat → Int32) (a20 : Nat → Int32) (a21 : Nat → Int32) (L : Nat) (c : Nat → Int) (pos : Nat) (lo20 : Nat → Int32) (lo21 : Nat → Int32) (t0 : List Tok) (opn : Nat) (tv15 : v15.toInt = ((L : Nat) : Int)) (tv16 : v16.toInt = ((pos : Nat) : Int)) (hL : L ≤ 120) (hpL : pos ≤ L) (hCH : MCHR a14 L c) (tv17 : v17.toInt = (-1)) (hMC : MC lo20 lo21 a20 a21 v19 t0) (tv18 : v18.toInt = ((opn : Nat) : Int)) (htp : t0.length ≤ pos) (hok : opn + k = 6), Mg l yX11_operand wsX11_operand ({ frames := 6 * (k) + 4, cells := 0, slots := 0, locals := 132 * (k) + 70 }) D Y [(m, .inr (10, mF R v0 v7 v8 v9 v15 v16 v17 v18 v19 v27 v31 v32 v33 v34 v38 v42 v44)), ((R 14), .inl (Y 2, 120, .inl a14)), ((R 20), .inl (Y 2, 260, .inl a20)), ((R 21), .inl (Y 0, 260, .inl a21))] [.ref m] 0 0 (fun vv__ ww__ => (∃ (q : Nat), ∃ (ts : List Tok), ∃ (z16 : Int32), ∃ (z19 : Int32), ∃ (b20 : Nat → Int32), ∃ (b21 : Nat → Int32), vv__ = none ∧ ww__ = [(m, .inr (10, mF R v0 v7 v8 v9 v15 z16 v17 v18 z19 v27 v31 v32 v33 v34 v38 v42 v44)), ((R 14), .inl (Y 2, 120, .inl a14)), ((R 20), .inl (Y 2, 260, .inl b20)), ((R 21), .inl (Y 0, 260, .inl b21))] ∧ (z16.toInt = ((q : Nat) : Int)) ∧ (pOp c k pos = (q, some ts)) ∧ (pos + ts.length ≤ q ∧ q ≤ L) ∧ (MC lo20 lo21 b20 b21 z19 (t0 ++ ts.map mkT))) ∨ (∃ (q : Nat), ∃ (l2 : Nat), ∃ (z16 : Int32), ∃ (z17 : Int32), ∃ (z18 : Int32), ∃ (z19 : Int32), ∃ (b20 : Nat → Int32), ∃ (b21 : Nat → Int32), vv__ = none ∧ ww__ = [(m, .inr (10, mF R v0 v7 v8 v9 v15 z16 z17 z18 z19 v27 v31 v32 v33 v34 v38 v42 v44)), ((R 14), .inl (Y 2, 120, .inl a14)), ((R 20), .inl (Y 2, 260, .inl b20)), ((R 21), .inl (Y 0, 260, .inl b21))] ∧ (z16.toInt = ((q : Nat) : Int)) ∧ (z17.toInt = ((q : Nat) : Int)) ∧ (pOp c k pos = (q, none)) ∧ (q ≤ L) ∧ (z19.toInt = ((l2 : Nat) : Int)) ∧ (l2 + pos ≤ t0.length + q + 1) ∧ (LO lo20 lo21 b20 b21)))) : Mg l yX11_compared wsX11_compared ({ frames := 6 * (k) + 4 + 3, cells := 0, slots := 0, locals := 132 * (k) + 70 + 22 * 3 }) D Y [(m, .inr (10, mF R v0 v7 v8 v9 v15 v16 v17 v18 v19 v27 v31 v32 v33 v34 v38 v42 v44)), ((R 14), .inl (Y 2, 120, .inl a14)), ((R 20), .inl (Y 2, 260, .inl a20)), ((R 21), .inl (Y 0, 260, .inl a21))] [.ref m] 0 0 (fun vv__ ww__ => (∃ (q : Nat), ∃ (ts : List Tok), ∃ (z16 : Int32), ∃ (z19 : Int32), ∃ (b20 : Nat → Int32), ∃ (b21 : Nat → Int32), vv__ = none ∧ ww__ = [(m, .inr (10, mF R v0 v7 v8 v9 v15 z16 v17 v18 z19 v27 v31 v32 v33 v34 v38 v42 v44)), ((R 14), .inl (Y 2, 120, .inl a14)), ((R 20), .inl (Y 2, 260, .inl b20)), ((R 21), .inl (Y 0, 260, .inl b21))] ∧ (z16.toInt = ((q : Nat) : Int)) ∧ (pTm c (pOp c k) 3 pos = (q, some ts)) ∧ (pos + ts.length ≤ q ∧ q ≤ L) ∧ (MC lo20 lo21 b20 b21 z19 (t0 ++ ts.map mkT))) ∨ (∃ (q : Nat), ∃ (l2 : Nat), ∃ (z16 : Int32), ∃ (z17 : Int32), ∃ (z18 : Int32), ∃ (z19 : Int32), ∃ (b20 : Nat → Int32), ∃ (b21 : Nat → Int32), vv__ = none ∧ ww__ = [(m, .inr (10, mF R v0 v7 v8 v9 v15 z16 z17 z18 z19 v27 v31 v32 v33 v34 v38 v42 v44)), ((R 14), .inl (Y 2, 120, .inl a14)), ((R 20), .inl (Y 2, 260, .inl b20)), ((R 21), .inl (Y 0, 260, .inl b21))] ∧ (z16.toInt = ((q : Nat) : Int)) ∧ (z17.toInt = ((q : Nat) : Int)) ∧ (pTm c (pOp c k) 3 pos = (q, none)) ∧ (q ≤ L) ∧ (z19.toInt = ((l2 : Nat) : Int)) ∧ (l2 + pos ≤ t0.length + q + 1) ∧ (LO lo20 lo21 b20 b21))) := by
  refine Mg_of (cc := cX11_compared) (maxL := 2) (ret := none) (ls0 := [(0, .ref m)]) RX11 (by decide) rfl rfl rfl (Nat.le_of_ble_eq_true rfl) (fun p__ e__ s__ m__ b__ t__ c__ X hr hn => ?_)
  refine V_aload_n X 0 rfl dX11_compared_0 ?_
  refine V_callV (C := RX11) (wr := []) (st := []) X (c_X11_sum l D Y m R v0 v7 v8 v9 v15 v16 v17 v18 v19 v27 v31 v32 v33 v34 v38 v42 v44 a14 a20 a21 L c pos lo20 lo21 t0 opn k tv15 tv16 hL hpL hCH tv17 hMC tv18 htp hok mhO) 0 gX11_compared_X11_sum rfl (by decide +kernel) ⟨rfl, rfl⟩ ⟨(by simp only [headSpec]; omega), (by simp only [headSpec]; omega)⟩ [0, 1, 2, 3] [] rfl rfl rfl rfl (by decide) (ci := 10) rfl rfl 0 rfl rfl rfl (Nat.le_of_ble_eq_true rfl) ⟨Nat.le_of_ble_eq_true rfl, Nat.le_of_ble_eq_true rfl⟩ dX11_compared_1 (fun v_1 w_1 h_1 => ?_)
  rcases h_1 with ⟨q_f, ts_f, z16_f, z19_f, b20_f, b21_f, rfl, rfl, tz16_f, hR_f, hqb_f, hMC2_f⟩ | ⟨q_f, l2_f, z16_f, z17_f, z18_f, z19_f, b20_f, b21_f, rfl, rfl, tz16_f, tz17_f, hR_f, hqL_f, tz19_f, hl2_f, hLO2_f⟩
  · refine V_to (pc' := 4) (ls' := [(0, .ref m)]) (st' := []) (ws' := [(m, .inr (10, mF R v0 v7 v8 v9 v15 z16_f v17 v18 z19_f v27 v31 v32 v33 v34 v38 v42 v44)), ((R 14), .inl (Y 2, 120, .inl a14)), ((R 20), .inl (Y 2, 260, .inl b20_f)), ((R 21), .inl (Y 0, 260, .inl b21_f))]) ?_ rfl rfl rfl rfl
    refine V_aload_n X 0 rfl dX11_compared_4 ?_
    refine V_callV (C := RX11) (wr := [((R 20), .inl (Y 2, 260, .inl b20_f)), ((R 21), .inl (Y 0, 260, .inl b21_f))]) (st := []) X (c_X11_look l D Y m R v0 v7 v8 v9 v15 z16_f v17 v18 z19_f v27 v31 v32 v33 v34 v38 v42 v44 a14 L c q_f tv15 tz16_f hL (by omega) hCH) 0 gX11_compared_X11_look rfl (by decide +kernel) ⟨rfl, rfl⟩ ⟨(by simp only [headSpec]; omega), (by simp only [headSpec]; omega)⟩ [0, 1] [2, 3] rfl rfl rfl rfl (by decide) (ci := 10) rfl rfl 0 rfl rfl rfl (Nat.le_of_ble_eq_true rfl) ⟨Nat.le_of_ble_eq_true rfl, Nat.le_of_ble_eq_true rfl⟩ dX11_compared_5 (fun v_5 w_5 h_5 => ?_)
    obtain ⟨r_28, rfl, rfl, hhpk_29⟩ := h_5
    refine V_to (pc' := 8) (ls' := [(0, .ref m)]) (st' := [.int r_28]) (ws' := [((R 20), .inl (Y 2, 260, .inl b20_f)), ((R 21), .inl (Y 0, 260, .inl b21_f)), (m, .inr (10, mF R v0 v7 v8 v9 v15 z16_f v17 v18 z19_f v27 v31 v32 v33 v34 v38 v42 v44)), ((R 14), .inl (Y 2, 120, .inl a14))]) ?_ rfl rfl rfl rfl
    refine V_istore_n (ls' := [(1, .int r_28), (0, .ref m)]) X (by decide) rfl dX11_compared_8 ?_
    refine V_aload_n X 1 rfl dX11_compared_9 ?_
    refine V_get (C := RX11) (T := TX11) (N := 50) (ci := 10) (v := .int v17) X in_X11_compared_X11 2 rfl rfl 17 (by decide) (List.mem_of_getElem? (i := 1) rfl) rfl rfl dX11_compared_10 ?_
    refine V_if_ge X tv17 34 dX11_compared_13 (by decide) (fun c_13 => absurd c_13 (by decide)) (fun _ => ?_)
    have hPL : pLp c (pTm c (pOp c k) 2) 2 120 q_f ts_f = pTm c (pOp c k) 3 pos := (show _ = pBd _ _ from (pBd_s hR_f).symm)
    refine V_iload_n X 0 rfl dX11_compared_16 ?_
    refine V_bipush (v := (60 : Int32)) X (by decide) dX11_compared_17 ?_
    refine V_icmp_eq X rfl (show (60 : Int32).toInt = 60 from by decide) 35 dX11_compared_19 (by decide) (fun c_19 => ?_) (fun c_19 => ?_)
    · have hcc : c q_f = 60 ∨ c q_f = 61 ∨ c q_f = 62 := by omega
      have hlc : lvC (c q_f) = ((2 : Nat) : Int) := lv2.mpr hcc
      have hlv : 0 ≤ lvC (c q_f) := by omega
      have hqlt := MCHR_lt hCH (show c q_f ≠ -1 by omega)
      refine V_aload_n X 1 rfl dX11_compared_35 ?_
      refine V_dup X rfl dX11_compared_36 ?_
      refine V_get (C := RX11) (T := TX11) (N := 50) (ci := 10) (v := .int z16_f) X in_X11_compared_X11 2 rfl rfl 16 (by decide) (List.mem_of_getElem? (i := 2) rfl) rfl rfl dX11_compared_37 ?_
      refine V_iconst (v := (1 : Int32)) X (by decide) dX11_compared_40 ?_
      refine V_iaddZ X tz16_f (show (1 : Int32).toInt = 1 from by decide) (by omega) (by omega) dX11_compared_41 (fun x_30 ex_30 tx_30 => ?_)
      have tx_30 : x_30.toInt = (((q_f + 1) : Nat) : Int) := by omega
      refine V_put (C := RX11) (T := TX11) (N := 50) (ci := 10) (v := .int x_30) (ty := tyX11 16) (ws' := [((R 20), .inl (Y 2, 260, .inl b20_f)), ((R 21), .inl (Y 0, 260, .inl b21_f)), (m, .inr (10, mF R v0 v7 v8 v9 v15 x_30 v17 v18 z19_f v27 v31 v32 v33 v34 v38 v42 v44)), ((R 14), .inl (Y 2, 120, .inl a14))]) X in_X11_compared_X11 2 rfl rfl 16 (by decide) (List.mem_of_getElem? (i := 2) rfl) rfl tyX11 tyX11_ok nmX11 rfl (tyX11_ok 16 (by decide)) rfl rfl (Nat.le_of_ble_eq_true rfl) rfl dX11_compared_42 ?_
      refine V_aload_n X 1 rfl dX11_compared_45 ?_
      refine V_callV (C := RX11) (wr := []) (st := []) X (c_X11_sum l D Y m R v0 v7 v8 v9 v15 x_30 v17 v18 z19_f v27 v31 v32 v33 v34 v38 v42 v44 a14 b20_f b21_f L c (q_f + 1) lo20 lo21 (t0 ++ ts_f.map mkT) opn k tv15 tx_30 hL (by omega) hCH tv17 hMC2_f tv18 (by rw [List.length_append, List.length_map]; omega) hok mhO) 0 gX11_compared_X11_sum rfl (by decide +kernel) ⟨rfl, rfl⟩ ⟨(by simp only [headSpec]; omega), (by simp only [headSpec]; omega)⟩ [2, 3, 0, 1] [] rfl rfl rfl rfl (by decide) (ci := 10) rfl rfl 0 rfl rfl rfl (Nat.le_of_ble_eq_true rfl) ⟨Nat.le_of_ble_eq_true rfl, Nat.le_of_ble_eq_true rfl⟩ dX11_compared_46 (fun v_46 w_46 h_46 => ?_)
      rcases h_46 with ⟨q_g, ts_g, z16_g, z19_g, b20_g, b21_g, rfl, rfl, tz16_g, hR_g, hqb_g, hMC2_g⟩ | ⟨q_g, l2_g, z16_g, z17_g, z18_g, z19_g, b20_g, b21_g, rfl, rfl, tz16_g, tz17_g, hR_g, hqL_g, tz19_g, hl2_g, hLO2_g⟩
      · refine V_to (pc' := 49) (ls' := [(1, .int r_28), (0, .ref m)]) (st' := []) (ws' := [(m, .inr (10, mF R v0 v7 v8 v9 v15 z16_g v17 v18 z19_g v27 v31 v32 v33 v34 v38 v42 v44)), ((R 14), .inl (Y 2, 120, .inl a14)), ((R 20), .inl (Y 2, 260, .inl b20_g)), ((R 21), .inl (Y 0, 260, .inl b21_g))]) ?_ rfl rfl rfl rfl
        refine V_aload_n X 1 rfl dX11_compared_49 ?_
        refine V_iload_n X 0 rfl dX11_compared_50 ?_
        refine V_iconst (v := (0 : Int32)) X (by decide) dX11_compared_51 ?_
        have hsg : r_28.toInt = c q_f := by omega
        refine V_callV (C := RX11) (wr := [((R 14), .inl (Y 2, 120, .inl a14))]) (st := []) X (c_X11_addStep l D Y m R v0 v7 v8 v9 v15 z16_g v17 v18 z19_g v27 v31 v32 v33 v34 v38 v42 v44 b20_g b21_g lo20 lo21 ((t0 ++ ts_f.map mkT) ++ ts_g.map mkT) r_28 (0 : Int32) hMC2_g (by rw [List.length_append, List.length_append, List.length_map, List.length_map]; omega) (by omega)) 2 gX11_compared_X11_addStep rfl (by decide +kernel) ⟨rfl, rfl⟩ ⟨(by simp only [headSpec]; omega), (by simp only [headSpec]; omega)⟩ [0, 2, 3] [1] rfl rfl rfl rfl (by decide) (ci := 10) rfl rfl 0 rfl rfl rfl (Nat.le_of_ble_eq_true rfl) ⟨Nat.le_of_ble_eq_true rfl, Nat.le_of_ble_eq_true rfl⟩ dX11_compared_52 (fun v_52 w_52 h_52 => ?_)
        obtain ⟨z19_a, b20_a, b21_a, rfl, rfl, hMC2_a⟩ := h_52
        refine V_to (pc' := 55) (ls' := [(1, .int r_28), (0, .ref m)]) (st' := []) (ws' := [((R 14), .inl (Y 2, 120, .inl a14)), (m, .inr (10, mF R v0 v7 v8 v9 v15 z16_g v17 v18 z19_a v27 v31 v32 v33 v34 v38 v42 v44)), ((R 20), .inl (Y 2, 260, .inl b20_a)), ((R 21), .inl (Y 0, 260, .inl b21_a))]) ?_ rfl rfl rfl rfl
        have hc_0 : (0 : Int32).toInt = 0 := by decide
        refine V_ws (ws' := [(m, .inr (10, mF R v0 v7 v8 v9 v15 z16_g v17 v18 z19_a v27 v31 v32 v33 v34 v38 v42 v44)), ((R 14), .inl (Y 2, 120, .inl a14)), ((R 20), .inl (Y 2, 260, .inl b20_a)), ((R 21), .inl (Y 0, 260, .inl b21_a))]) [1, 0, 2, 3] rfl rfl rfl ?_
        exact V_vret X hr dX11_compared_55 (Or.inl ⟨q_g, (ts_f ++ ts_g ++ [(c q_f, 0)]), z16_g, z19_a, b20_a, b21_a, rfl, rfl, tz16_g, (pLp_2 hPL (by omega) hlc hR_g rfl), (by rw [List.length_append, List.length_append, List.length_singleton]; omega), (by have h9 := hMC2_a; rw [hsg, show (0 : Int32).toInt = 0 from by decide, mpush hlv] at h9; exact h9)⟩)
      · refine V_to (pc' := 49) (ls' := [(1, .int r_28), (0, .ref m)]) (st' := []) (ws' := [(m, .inr (10, mF R v0 v7 v8 v9 v15 z16_g z17_g z18_g z19_g v27 v31 v32 v33 v34 v38 v42 v44)), ((R 14), .inl (Y 2, 120, .inl a14)), ((R 20), .inl (Y 2, 260, .inl b20_g)), ((R 21), .inl (Y 0, 260, .inl b21_g))]) ?_ rfl rfl rfl rfl
        refine V_aload_n X 1 rfl dX11_compared_49 ?_
        refine V_iload_n X 0 rfl dX11_compared_50 ?_
        refine V_iconst (v := (0 : Int32)) X (by decide) dX11_compared_51 ?_
        have hsg : r_28.toInt = c q_f := by omega
        refine V_callV (C := RX11) (wr := [((R 14), .inl (Y 2, 120, .inl a14))]) (st := []) X (c_X11_addStepD l D Y m R v0 v7 v8 v9 v15 z16_g z17_g z18_g z19_g v27 v31 v32 v33 v34 v38 v42 v44 b20_g b21_g lo20 lo21 l2_g r_28 (0 : Int32) tz19_g hLO2_g (by rw [List.length_append, List.length_map] at hl2_g; omega)) 2 gX11_compared_X11_addStep rfl (by decide +kernel) ⟨rfl, rfl⟩ ⟨(by simp only [headSpec]; omega), (by simp only [headSpec]; omega)⟩ [0, 2, 3] [1] rfl rfl rfl rfl (by decide) (ci := 10) rfl rfl 0 rfl rfl rfl (Nat.le_of_ble_eq_true rfl) ⟨Nat.le_of_ble_eq_true rfl, Nat.le_of_ble_eq_true rfl⟩ dX11_compared_52 (fun v_52 w_52 h_52 => ?_)
        obtain ⟨z19_a, b20_a, b21_a, rfl, rfl, tz19_a, hLO2_a⟩ := h_52
        refine V_to (pc' := 55) (ls' := [(1, .int r_28), (0, .ref m)]) (st' := []) (ws' := [((R 14), .inl (Y 2, 120, .inl a14)), (m, .inr (10, mF R v0 v7 v8 v9 v15 z16_g z17_g z18_g z19_a v27 v31 v32 v33 v34 v38 v42 v44)), ((R 20), .inl (Y 2, 260, .inl b20_a)), ((R 21), .inl (Y 0, 260, .inl b21_a))]) ?_ rfl rfl rfl rfl
        refine V_ws (ws' := [(m, .inr (10, mF R v0 v7 v8 v9 v15 z16_g z17_g z18_g z19_a v27 v31 v32 v33 v34 v38 v42 v44)), ((R 14), .inl (Y 2, 120, .inl a14)), ((R 20), .inl (Y 2, 260, .inl b20_a)), ((R 21), .inl (Y 0, 260, .inl b21_a))]) [1, 0, 2, 3] rfl rfl rfl ?_
        exact V_vret X hr dX11_compared_55 (Or.inr (⟨q_g, (l2_g + 1), z16_g, z17_g, z18_g, z19_a, b20_a, b21_a, rfl, rfl, tz16_g, tz17_g, (pLp_n hPL (by omega) hlc hR_g), hqL_g, tz19_a, (by rw [List.length_append, List.length_map] at hl2_g; omega), hLO2_a⟩))
    · refine V_iload_n X 0 rfl dX11_compared_22 ?_
      refine V_bipush (v := (61 : Int32)) X (by decide) dX11_compared_23 ?_
      refine V_icmp_eq X rfl (show (61 : Int32).toInt = 61 from by decide) 35 dX11_compared_25 (by decide) (fun c_25 => ?_) (fun c_25 => ?_)
      · have hcc : c q_f = 60 ∨ c q_f = 61 ∨ c q_f = 62 := by omega
        have hlc : lvC (c q_f) = ((2 : Nat) : Int) := lv2.mpr hcc
        have hlv : 0 ≤ lvC (c q_f) := by omega
        have hqlt := MCHR_lt hCH (show c q_f ≠ -1 by omega)
        refine V_aload_n X 1 rfl dX11_compared_35 ?_
        refine V_dup X rfl dX11_compared_36 ?_
        refine V_get (C := RX11) (T := TX11) (N := 50) (ci := 10) (v := .int z16_f) X in_X11_compared_X11 2 rfl rfl 16 (by decide) (List.mem_of_getElem? (i := 2) rfl) rfl rfl dX11_compared_37 ?_
        refine V_iconst (v := (1 : Int32)) X (by decide) dX11_compared_40 ?_
        refine V_iaddZ X tz16_f (show (1 : Int32).toInt = 1 from by decide) (by omega) (by omega) dX11_compared_41 (fun x_68 ex_68 tx_68 => ?_)
        have tx_68 : x_68.toInt = (((q_f + 1) : Nat) : Int) := by omega
        refine V_put (C := RX11) (T := TX11) (N := 50) (ci := 10) (v := .int x_68) (ty := tyX11 16) (ws' := [((R 20), .inl (Y 2, 260, .inl b20_f)), ((R 21), .inl (Y 0, 260, .inl b21_f)), (m, .inr (10, mF R v0 v7 v8 v9 v15 x_68 v17 v18 z19_f v27 v31 v32 v33 v34 v38 v42 v44)), ((R 14), .inl (Y 2, 120, .inl a14))]) X in_X11_compared_X11 2 rfl rfl 16 (by decide) (List.mem_of_getElem? (i := 2) rfl) rfl tyX11 tyX11_ok nmX11 rfl (tyX11_ok 16 (by decide)) rfl rfl (Nat.le_of_ble_eq_true rfl) rfl dX11_compared_42 ?_
        refine V_aload_n X 1 rfl dX11_compared_45 ?_
        refine V_callV (C := RX11) (wr := []) (st := []) X (c_X11_sum l D Y m R v0 v7 v8 v9 v15 x_68 v17 v18 z19_f v27 v31 v32 v33 v34 v38 v42 v44 a14 b20_f b21_f L c (q_f + 1) lo20 lo21 (t0 ++ ts_f.map mkT) opn k tv15 tx_68 hL (by omega) hCH tv17 hMC2_f tv18 (by rw [List.length_append, List.length_map]; omega) hok mhO) 0 gX11_compared_X11_sum rfl (by decide +kernel) ⟨rfl, rfl⟩ ⟨(by simp only [headSpec]; omega), (by simp only [headSpec]; omega)⟩ [2, 3, 0, 1] [] rfl rfl rfl rfl (by decide) (ci := 10) rfl rfl 0 rfl rfl rfl (Nat.le_of_ble_eq_true rfl) ⟨Nat.le_of_ble_eq_true rfl, Nat.le_of_ble_eq_true rfl⟩ dX11_compared_46 (fun v_46 w_46 h_46 => ?_)
        rcases h_46 with ⟨q_g, ts_g, z16_g, z19_g, b20_g, b21_g, rfl, rfl, tz16_g, hR_g, hqb_g, hMC2_g⟩ | ⟨q_g, l2_g, z16_g, z17_g, z18_g, z19_g, b20_g, b21_g, rfl, rfl, tz16_g, tz17_g, hR_g, hqL_g, tz19_g, hl2_g, hLO2_g⟩
        · refine V_to (pc' := 49) (ls' := [(1, .int r_28), (0, .ref m)]) (st' := []) (ws' := [(m, .inr (10, mF R v0 v7 v8 v9 v15 z16_g v17 v18 z19_g v27 v31 v32 v33 v34 v38 v42 v44)), ((R 14), .inl (Y 2, 120, .inl a14)), ((R 20), .inl (Y 2, 260, .inl b20_g)), ((R 21), .inl (Y 0, 260, .inl b21_g))]) ?_ rfl rfl rfl rfl
          refine V_aload_n X 1 rfl dX11_compared_49 ?_
          refine V_iload_n X 0 rfl dX11_compared_50 ?_
          refine V_iconst (v := (0 : Int32)) X (by decide) dX11_compared_51 ?_
          have hsg : r_28.toInt = c q_f := by omega
          refine V_callV (C := RX11) (wr := [((R 14), .inl (Y 2, 120, .inl a14))]) (st := []) X (c_X11_addStep l D Y m R v0 v7 v8 v9 v15 z16_g v17 v18 z19_g v27 v31 v32 v33 v34 v38 v42 v44 b20_g b21_g lo20 lo21 ((t0 ++ ts_f.map mkT) ++ ts_g.map mkT) r_28 (0 : Int32) hMC2_g (by rw [List.length_append, List.length_append, List.length_map, List.length_map]; omega) (by omega)) 2 gX11_compared_X11_addStep rfl (by decide +kernel) ⟨rfl, rfl⟩ ⟨(by simp only [headSpec]; omega), (by simp only [headSpec]; omega)⟩ [0, 2, 3] [1] rfl rfl rfl rfl (by decide) (ci := 10) rfl rfl 0 rfl rfl rfl (Nat.le_of_ble_eq_true rfl) ⟨Nat.le_of_ble_eq_true rfl, Nat.le_of_ble_eq_true rfl⟩ dX11_compared_52 (fun v_52 w_52 h_52 => ?_)
          obtain ⟨z19_a, b20_a, b21_a, rfl, rfl, hMC2_a⟩ := h_52
          refine V_to (pc' := 55) (ls' := [(1, .int r_28), (0, .ref m)]) (st' := []) (ws' := [((R 14), .inl (Y 2, 120, .inl a14)), (m, .inr (10, mF R v0 v7 v8 v9 v15 z16_g v17 v18 z19_a v27 v31 v32 v33 v34 v38 v42 v44)), ((R 20), .inl (Y 2, 260, .inl b20_a)), ((R 21), .inl (Y 0, 260, .inl b21_a))]) ?_ rfl rfl rfl rfl
          have hc_0 : (0 : Int32).toInt = 0 := by decide
          refine V_ws (ws' := [(m, .inr (10, mF R v0 v7 v8 v9 v15 z16_g v17 v18 z19_a v27 v31 v32 v33 v34 v38 v42 v44)), ((R 14), .inl (Y 2, 120, .inl a14)), ((R 20), .inl (Y 2, 260, .inl b20_a)), ((R 21), .inl (Y 0, 260, .inl b21_a))]) [1, 0, 2, 3] rfl rfl rfl ?_
          exact V_vret X hr dX11_compared_55 (Or.inl ⟨q_g, (ts_f ++ ts_g ++ [(c q_f, 0)]), z16_g, z19_a, b20_a, b21_a, rfl, rfl, tz16_g, (pLp_2 hPL (by omega) hlc hR_g rfl), (by rw [List.length_append, List.length_append, List.length_singleton]; omega), (by have h9 := hMC2_a; rw [hsg, show (0 : Int32).toInt = 0 from by decide, mpush hlv] at h9; exact h9)⟩)
        · refine V_to (pc' := 49) (ls' := [(1, .int r_28), (0, .ref m)]) (st' := []) (ws' := [(m, .inr (10, mF R v0 v7 v8 v9 v15 z16_g z17_g z18_g z19_g v27 v31 v32 v33 v34 v38 v42 v44)), ((R 14), .inl (Y 2, 120, .inl a14)), ((R 20), .inl (Y 2, 260, .inl b20_g)), ((R 21), .inl (Y 0, 260, .inl b21_g))]) ?_ rfl rfl rfl rfl
          refine V_aload_n X 1 rfl dX11_compared_49 ?_
          refine V_iload_n X 0 rfl dX11_compared_50 ?_
          refine V_iconst (v := (0 : Int32)) X (by decide) dX11_compared_51 ?_
          have hsg : r_28.toInt = c q_f := by omega
          refine V_callV (C := RX11) (wr := [((R 14), .inl (Y 2, 120, .inl a14))]) (st := []) X (c_X11_addStepD l D Y m R v0 v7 v8 v9 v15 z16_g z17_g z18_g z19_g v27 v31 v32 v33 v34 v38 v42 v44 b20_g b21_g lo20 lo21 l2_g r_28 (0 : Int32) tz19_g hLO2_g (by rw [List.length_append, List.length_map] at hl2_g; omega)) 2 gX11_compared_X11_addStep rfl (by decide +kernel) ⟨rfl, rfl⟩ ⟨(by simp only [headSpec]; omega), (by simp only [headSpec]; omega)⟩ [0, 2, 3] [1] rfl rfl rfl rfl (by decide) (ci := 10) rfl rfl 0 rfl rfl rfl (Nat.le_of_ble_eq_true rfl) ⟨Nat.le_of_ble_eq_true rfl, Nat.le_of_ble_eq_true rfl⟩ dX11_compared_52 (fun v_52 w_52 h_52 => ?_)
          obtain ⟨z19_a, b20_a, b21_a, rfl, rfl, tz19_a, hLO2_a⟩ := h_52
          refine V_to (pc' := 55) (ls' := [(1, .int r_28), (0, .ref m)]) (st' := []) (ws' := [((R 14), .inl (Y 2, 120, .inl a14)), (m, .inr (10, mF R v0 v7 v8 v9 v15 z16_g z17_g z18_g z19_a v27 v31 v32 v33 v34 v38 v42 v44)), ((R 20), .inl (Y 2, 260, .inl b20_a)), ((R 21), .inl (Y 0, 260, .inl b21_a))]) ?_ rfl rfl rfl rfl
          refine V_ws (ws' := [(m, .inr (10, mF R v0 v7 v8 v9 v15 z16_g z17_g z18_g z19_a v27 v31 v32 v33 v34 v38 v42 v44)), ((R 14), .inl (Y 2, 120, .inl a14)), ((R 20), .inl (Y 2, 260, .inl b20_a)), ((R 21), .inl (Y 0, 260, .inl b21_a))]) [1, 0, 2, 3] rfl rfl rfl ?_
          exact V_vret X hr dX11_compared_55 (Or.inr (⟨q_g, (l2_g + 1), z16_g, z17_g, z18_g, z19_a, b20_a, b21_a, rfl, rfl, tz16_g, tz17_g, (pLp_n hPL (by omega) hlc hR_g), hqL_g, tz19_a, (by rw [List.length_append, List.length_map] at hl2_g; omega), hLO2_a⟩))
      · refine V_iload_n X 0 rfl dX11_compared_28 ?_
        refine V_bipush (v := (62 : Int32)) X (by decide) dX11_compared_29 ?_
        refine V_icmp_eq X rfl (show (62 : Int32).toInt = 62 from by decide) 35 dX11_compared_31 (by decide) (fun c_31 => ?_) (fun c_31 => ?_)
        · have hcc : c q_f = 60 ∨ c q_f = 61 ∨ c q_f = 62 := by omega
          have hlc : lvC (c q_f) = ((2 : Nat) : Int) := lv2.mpr hcc
          have hlv : 0 ≤ lvC (c q_f) := by omega
          have hqlt := MCHR_lt hCH (show c q_f ≠ -1 by omega)
          refine V_aload_n X 1 rfl dX11_compared_35 ?_
          refine V_dup X rfl dX11_compared_36 ?_
          refine V_get (C := RX11) (T := TX11) (N := 50) (ci := 10) (v := .int z16_f) X in_X11_compared_X11 2 rfl rfl 16 (by decide) (List.mem_of_getElem? (i := 2) rfl) rfl rfl dX11_compared_37 ?_
          refine V_iconst (v := (1 : Int32)) X (by decide) dX11_compared_40 ?_
          refine V_iaddZ X tz16_f (show (1 : Int32).toInt = 1 from by decide) (by omega) (by omega) dX11_compared_41 (fun x_106 ex_106 tx_106 => ?_)
          have tx_106 : x_106.toInt = (((q_f + 1) : Nat) : Int) := by omega
          refine V_put (C := RX11) (T := TX11) (N := 50) (ci := 10) (v := .int x_106) (ty := tyX11 16) (ws' := [((R 20), .inl (Y 2, 260, .inl b20_f)), ((R 21), .inl (Y 0, 260, .inl b21_f)), (m, .inr (10, mF R v0 v7 v8 v9 v15 x_106 v17 v18 z19_f v27 v31 v32 v33 v34 v38 v42 v44)), ((R 14), .inl (Y 2, 120, .inl a14))]) X in_X11_compared_X11 2 rfl rfl 16 (by decide) (List.mem_of_getElem? (i := 2) rfl) rfl tyX11 tyX11_ok nmX11 rfl (tyX11_ok 16 (by decide)) rfl rfl (Nat.le_of_ble_eq_true rfl) rfl dX11_compared_42 ?_
          refine V_aload_n X 1 rfl dX11_compared_45 ?_
          refine V_callV (C := RX11) (wr := []) (st := []) X (c_X11_sum l D Y m R v0 v7 v8 v9 v15 x_106 v17 v18 z19_f v27 v31 v32 v33 v34 v38 v42 v44 a14 b20_f b21_f L c (q_f + 1) lo20 lo21 (t0 ++ ts_f.map mkT) opn k tv15 tx_106 hL (by omega) hCH tv17 hMC2_f tv18 (by rw [List.length_append, List.length_map]; omega) hok mhO) 0 gX11_compared_X11_sum rfl (by decide +kernel) ⟨rfl, rfl⟩ ⟨(by simp only [headSpec]; omega), (by simp only [headSpec]; omega)⟩ [2, 3, 0, 1] [] rfl rfl rfl rfl (by decide) (ci := 10) rfl rfl 0 rfl rfl rfl (Nat.le_of_ble_eq_true rfl) ⟨Nat.le_of_ble_eq_true rfl, Nat.le_of_ble_eq_true rfl⟩ dX11_compared_46 (fun v_46 w_46 h_46 => ?_)
          rcases h_46 with ⟨q_g, ts_g, z16_g, z19_g, b20_g, b21_g, rfl, rfl, tz16_g, hR_g, hqb_g, hMC2_g⟩ | ⟨q_g, l2_g, z16_g, z17_g, z18_g, z19_g, b20_g, b21_g, rfl, rfl, tz16_g, tz17_g, hR_g, hqL_g, tz19_g, hl2_g, hLO2_g⟩
          · refine V_to (pc' := 49) (ls' := [(1, .int r_28), (0, .ref m)]) (st' := []) (ws' := [(m, .inr (10, mF R v0 v7 v8 v9 v15 z16_g v17 v18 z19_g v27 v31 v32 v33 v34 v38 v42 v44)), ((R 14), .inl (Y 2, 120, .inl a14)), ((R 20), .inl (Y 2, 260, .inl b20_g)), ((R 21), .inl (Y 0, 260, .inl b21_g))]) ?_ rfl rfl rfl rfl
            refine V_aload_n X 1 rfl dX11_compared_49 ?_
            refine V_iload_n X 0 rfl dX11_compared_50 ?_
            refine V_iconst (v := (0 : Int32)) X (by decide) dX11_compared_51 ?_
            have hsg : r_28.toInt = c q_f := by omega
            refine V_callV (C := RX11) (wr := [((R 14), .inl (Y 2, 120, .inl a14))]) (st := []) X (c_X11_addStep l D Y m R v0 v7 v8 v9 v15 z16_g v17 v18 z19_g v27 v31 v32 v33 v34 v38 v42 v44 b20_g b21_g lo20 lo21 ((t0 ++ ts_f.map mkT) ++ ts_g.map mkT) r_28 (0 : Int32) hMC2_g (by rw [List.length_append, List.length_append, List.length_map, List.length_map]; omega) (by omega)) 2 gX11_compared_X11_addStep rfl (by decide +kernel) ⟨rfl, rfl⟩ ⟨(by simp only [headSpec]; omega), (by simp only [headSpec]; omega)⟩ [0, 2, 3] [1] rfl rfl rfl rfl (by decide) (ci := 10) rfl rfl 0 rfl rfl rfl (Nat.le_of_ble_eq_true rfl) ⟨Nat.le_of_ble_eq_true rfl, Nat.le_of_ble_eq_true rfl⟩ dX11_compared_52 (fun v_52 w_52 h_52 => ?_)
            obtain ⟨z19_a, b20_a, b21_a, rfl, rfl, hMC2_a⟩ := h_52
            refine V_to (pc' := 55) (ls' := [(1, .int r_28), (0, .ref m)]) (st' := []) (ws' := [((R 14), .inl (Y 2, 120, .inl a14)), (m, .inr (10, mF R v0 v7 v8 v9 v15 z16_g v17 v18 z19_a v27 v31 v32 v33 v34 v38 v42 v44)), ((R 20), .inl (Y 2, 260, .inl b20_a)), ((R 21), .inl (Y 0, 260, .inl b21_a))]) ?_ rfl rfl rfl rfl
            have hc_0 : (0 : Int32).toInt = 0 := by decide
            refine V_ws (ws' := [(m, .inr (10, mF R v0 v7 v8 v9 v15 z16_g v17 v18 z19_a v27 v31 v32 v33 v34 v38 v42 v44)), ((R 14), .inl (Y 2, 120, .inl a14)), ((R 20), .inl (Y 2, 260, .inl b20_a)), ((R 21), .inl (Y 0, 260, .inl b21_a))]) [1, 0, 2, 3] rfl rfl rfl ?_
            exact V_vret X hr dX11_compared_55 (Or.inl ⟨q_g, (ts_f ++ ts_g ++ [(c q_f, 0)]), z16_g, z19_a, b20_a, b21_a, rfl, rfl, tz16_g, (pLp_2 hPL (by omega) hlc hR_g rfl), (by rw [List.length_append, List.length_append, List.length_singleton]; omega), (by have h9 := hMC2_a; rw [hsg, show (0 : Int32).toInt = 0 from by decide, mpush hlv] at h9; exact h9)⟩)
          · refine V_to (pc' := 49) (ls' := [(1, .int r_28), (0, .ref m)]) (st' := []) (ws' := [(m, .inr (10, mF R v0 v7 v8 v9 v15 z16_g z17_g z18_g z19_g v27 v31 v32 v33 v34 v38 v42 v44)), ((R 14), .inl (Y 2, 120, .inl a14)), ((R 20), .inl (Y 2, 260, .inl b20_g)), ((R 21), .inl (Y 0, 260, .inl b21_g))]) ?_ rfl rfl rfl rfl
            refine V_aload_n X 1 rfl dX11_compared_49 ?_
            refine V_iload_n X 0 rfl dX11_compared_50 ?_
            refine V_iconst (v := (0 : Int32)) X (by decide) dX11_compared_51 ?_
            have hsg : r_28.toInt = c q_f := by omega
            refine V_callV (C := RX11) (wr := [((R 14), .inl (Y 2, 120, .inl a14))]) (st := []) X (c_X11_addStepD l D Y m R v0 v7 v8 v9 v15 z16_g z17_g z18_g z19_g v27 v31 v32 v33 v34 v38 v42 v44 b20_g b21_g lo20 lo21 l2_g r_28 (0 : Int32) tz19_g hLO2_g (by rw [List.length_append, List.length_map] at hl2_g; omega)) 2 gX11_compared_X11_addStep rfl (by decide +kernel) ⟨rfl, rfl⟩ ⟨(by simp only [headSpec]; omega), (by simp only [headSpec]; omega)⟩ [0, 2, 3] [1] rfl rfl rfl rfl (by decide) (ci := 10) rfl rfl 0 rfl rfl rfl (Nat.le_of_ble_eq_true rfl) ⟨Nat.le_of_ble_eq_true rfl, Nat.le_of_ble_eq_true rfl⟩ dX11_compared_52 (fun v_52 w_52 h_52 => ?_)
            obtain ⟨z19_a, b20_a, b21_a, rfl, rfl, tz19_a, hLO2_a⟩ := h_52
            refine V_to (pc' := 55) (ls' := [(1, .int r_28), (0, .ref m)]) (st' := []) (ws' := [((R 14), .inl (Y 2, 120, .inl a14)), (m, .inr (10, mF R v0 v7 v8 v9 v15 z16_g z17_g z18_g z19_a v27 v31 v32 v33 v34 v38 v42 v44)), ((R 20), .inl (Y 2, 260, .inl b20_a)), ((R 21), .inl (Y 0, 260, .inl b21_a))]) ?_ rfl rfl rfl rfl
            refine V_ws (ws' := [(m, .inr (10, mF R v0 v7 v8 v9 v15 z16_g z17_g z18_g z19_a v27 v31 v32 v33 v34 v38 v42 v44)), ((R 14), .inl (Y 2, 120, .inl a14)), ((R 20), .inl (Y 2, 260, .inl b20_a)), ((R 21), .inl (Y 0, 260, .inl b21_a))]) [1, 0, 2, 3] rfl rfl rfl ?_
            exact V_vret X hr dX11_compared_55 (Or.inr (⟨q_g, (l2_g + 1), z16_g, z17_g, z18_g, z19_a, b20_a, b21_a, rfl, rfl, tz16_g, tz17_g, (pLp_n hPL (by omega) hlc hR_g), hqL_g, tz19_a, (by rw [List.length_append, List.length_map] at hl2_g; omega), hLO2_a⟩))
        · refine V_ws (ws' := [(m, .inr (10, mF R v0 v7 v8 v9 v15 z16_f v17 v18 z19_f v27 v31 v32 v33 v34 v38 v42 v44)), ((R 14), .inl (Y 2, 120, .inl a14)), ((R 20), .inl (Y 2, 260, .inl b20_f)), ((R 21), .inl (Y 0, 260, .inl b21_f))]) [2, 3, 0, 1] rfl rfl rfl ?_
          exact V_vret X hr dX11_compared_34 (Or.inl ⟨q_f, ts_f, z16_f, z19_f, b20_f, b21_f, rfl, rfl, tz16_f, (pLp_x hPL (Or.inr (fun h => by have h9 := lv2.mp h; omega))), hqb_f, hMC2_f⟩)
  · refine V_to (pc' := 4) (ls' := [(0, .ref m)]) (st' := []) (ws' := [(m, .inr (10, mF R v0 v7 v8 v9 v15 z16_f z17_f z18_f z19_f v27 v31 v32 v33 v34 v38 v42 v44)), ((R 14), .inl (Y 2, 120, .inl a14)), ((R 20), .inl (Y 2, 260, .inl b20_f)), ((R 21), .inl (Y 0, 260, .inl b21_f))]) ?_ rfl rfl rfl rfl
    refine V_aload_n X 0 rfl dX11_compared_4 ?_
    refine V_callV (C := RX11) (wr := [((R 20), .inl (Y 2, 260, .inl b20_f)), ((R 21), .inl (Y 0, 260, .inl b21_f))]) (st := []) X (c_X11_look l D Y m R v0 v7 v8 v9 v15 z16_f z17_f z18_f z19_f v27 v31 v32 v33 v34 v38 v42 v44 a14 L c q_f tv15 tz16_f hL hqL_f hCH) 0 gX11_compared_X11_look rfl (by decide +kernel) ⟨rfl, rfl⟩ ⟨(by simp only [headSpec]; omega), (by simp only [headSpec]; omega)⟩ [0, 1] [2, 3] rfl rfl rfl rfl (by decide) (ci := 10) rfl rfl 0 rfl rfl rfl (Nat.le_of_ble_eq_true rfl) ⟨Nat.le_of_ble_eq_true rfl, Nat.le_of_ble_eq_true rfl⟩ dX11_compared_5 (fun v_5 w_5 h_5 => ?_)
    obtain ⟨r_145, rfl, rfl, hhpk_146⟩ := h_5
    refine V_to (pc' := 8) (ls' := [(0, .ref m)]) (st' := [.int r_145]) (ws' := [((R 20), .inl (Y 2, 260, .inl b20_f)), ((R 21), .inl (Y 0, 260, .inl b21_f)), (m, .inr (10, mF R v0 v7 v8 v9 v15 z16_f z17_f z18_f z19_f v27 v31 v32 v33 v34 v38 v42 v44)), ((R 14), .inl (Y 2, 120, .inl a14))]) ?_ rfl rfl rfl rfl
    refine V_istore_n (ls' := [(1, .int r_145), (0, .ref m)]) X (by decide) rfl dX11_compared_8 ?_
    refine V_aload_n X 1 rfl dX11_compared_9 ?_
    refine V_get (C := RX11) (T := TX11) (N := 50) (ci := 10) (v := .int z17_f) X in_X11_compared_X11 2 rfl rfl 17 (by decide) (List.mem_of_getElem? (i := 1) rfl) rfl rfl dX11_compared_10 ?_
    refine V_if_ge X tz17_f 34 dX11_compared_13 (by decide) (fun c_13 => ?_) (fun c_13 => False.elim (by omega))
    refine V_ws (ws' := [(m, .inr (10, mF R v0 v7 v8 v9 v15 z16_f z17_f z18_f z19_f v27 v31 v32 v33 v34 v38 v42 v44)), ((R 14), .inl (Y 2, 120, .inl a14)), ((R 20), .inl (Y 2, 260, .inl b20_f)), ((R 21), .inl (Y 0, 260, .inl b21_f))]) [2, 3, 0, 1] rfl rfl rfl ?_
    exact V_vret X hr dX11_compared_34 (Or.inr (⟨q_f, l2_f, z16_f, z17_f, z18_f, z19_f, b20_f, b21_f, rfl, rfl, tz16_f, tz17_f, (pBd_n hR_f), hqL_f, tz19_f, hl2_f, hLO2_f⟩))

theorem in_X11_both_X11 : ∀ w ∈ wsX110, w ∈ wsX11_both := fun w h => List.mem_cons_of_mem _ (List.mem_append_right _ h)
set_option maxHeartbeats 4000000 in
set_option maxRecDepth 100000 in
theorem c_X11_both (l : Launch) (D : va_G) (Y : Nat → ClassId) (m : Nat) (R : Nat → Nat) (v0 : Int32) (v7 : Int32) (v8 : Int32) (v9 : Int32) (v15 : Int32) (v16 : Int32) (v17 : Int32) (v18 : Int32) (v19 : Int32) (v27 : Int32) (v31 : Int32) (v32 : Int32) (v33 : Int32) (v34 : Int32) (v38 : Int32) (v42 : Int32) (v44 : Int32) (a14 : Nat → Int32) (a20 : Nat → Int32) (a21 : Nat → Int32) (L : Nat) (c : Nat → Int) (pos : Nat) (lo20 : Nat → Int32) (lo21 : Nat → Int32) (t0 : List Tok) (opn : Nat) (k : Nat) (tv15 : v15.toInt = ((L : Nat) : Int)) (tv16 : v16.toInt = ((pos : Nat) : Int)) (hL : L ≤ 120) (hpL : pos ≤ L) (hCH : MCHR a14 L c) (tv17 : v17.toInt = (-1)) (hMC : MC lo20 lo21 a20 a21 v19 t0) (tv18 : v18.toInt = ((opn : Nat) : Int)) (htp : t0.length ≤ pos) (hok : opn + k = 6) (mhO : ∀ (l : Launch) (D : va_G) (Y : Nat → ClassId) (m : Nat) (R : Nat → Nat) (v0 : Int32) (v7 : Int32) (v8 : Int32) (v9 : Int32) (v15 : Int32) (v16 : Int32) (v17 : Int32) (v18 : Int32) (v19 : Int32) (v27 : Int32) (v31 : Int32) (v32 : Int32) (v33 : Int32) (v34 : Int32) (v38 : Int32) (v42 : Int32) (v44 : Int32) (a14 : Nat → Int32) (a20 : Nat → Int32) (a21 : Nat → Int32) (L : Nat) (c : Nat → Int) (pos : Nat) (lo20 : Nat → Int32) (lo21 : Nat → Int32) (t0 : List Tok) (opn : Nat) (tv15 : v15.toInt = ((L : Nat) : Int)) (tv16 : v16.toInt = ((pos : Nat) : Int)) (hL : L ≤ 120) (hpL : pos ≤ L) (hCH : MCHR a14 L c) (tv17 : v17.toInt = (-1)) (hMC : MC lo20 lo21 a20 a21 v19 t0) (tv18 : v18.toInt = ((opn : Nat) : Int)) (htp : t0.length ≤ pos) (hok : opn + k = 6), Mg l yX11_operand wsX11_operand ({ frames := 6 * (k) + 4, cells := 0, slots := 0, locals := 132 * (k) + 70 }) D Y [(m, .inr (10, mF R v0 v7 v8 v9 v15 v16 v17 v18 v19 v27 v31 v32 v33 v34 v38 v42 v44)), ((R 14), .inl (Y 2, 120, .inl a14)), ((R 20), .inl (Y 2, 260, .inl a20)), ((R 21), .inl (Y 0, 260, .inl a21))] [.ref m] 0 0 (fun vv__ ww__ => (∃ (q : Nat), ∃ (ts : List Tok), ∃ (z16 : Int32), ∃ (z19 : Int32), ∃ (b20 : Nat → Int32), ∃ (b21 : Nat → Int32), vv__ = none ∧ ww__ = [(m, .inr (10, mF R v0 v7 v8 v9 v15 z16 v17 v18 z19 v27 v31 v32 v33 v34 v38 v42 v44)), ((R 14), .inl (Y 2, 120, .inl a14)), ((R 20), .inl (Y 2, 260, .inl b20)), ((R 21), .inl (Y 0, 260, .inl b21))] ∧ (z16.toInt = ((q : Nat) : Int)) ∧ (pOp c k pos = (q, some ts)) ∧ (pos + ts.length ≤ q ∧ q ≤ L) ∧ (MC lo20 lo21 b20 b21 z19 (t0 ++ ts.map mkT))) ∨ (∃ (q : Nat), ∃ (l2 : Nat), ∃ (z16 : Int32), ∃ (z17 : Int32), ∃ (z18 : Int32), ∃ (z19 : Int32), ∃ (b20 : Nat → Int32), ∃ (b21 : Nat → Int32), vv__ = none ∧ ww__ = [(m, .inr (10, mF R v0 v7 v8 v9 v15 z16 z17 z18 z19 v27 v31 v32 v33 v34 v38 v42 v44)), ((R 14), .inl (Y 2, 120, .inl a14)), ((R 20), .inl (Y 2, 260, .inl b20)), ((R 21), .inl (Y 0, 260, .inl b21))] ∧ (z16.toInt = ((q : Nat) : Int)) ∧ (z17.toInt = ((q : Nat) : Int)) ∧ (pOp c k pos = (q, none)) ∧ (q ≤ L) ∧ (z19.toInt = ((l2 : Nat) : Int)) ∧ (l2 + pos ≤ t0.length + q + 1) ∧ (LO lo20 lo21 b20 b21)))) : Mg l yX11_both wsX11_both ({ frames := 6 * (k) + 4 + 4, cells := 0, slots := 0, locals := 132 * (k) + 70 + 22 * 4 }) D Y [(m, .inr (10, mF R v0 v7 v8 v9 v15 v16 v17 v18 v19 v27 v31 v32 v33 v34 v38 v42 v44)), ((R 14), .inl (Y 2, 120, .inl a14)), ((R 20), .inl (Y 2, 260, .inl a20)), ((R 21), .inl (Y 0, 260, .inl a21))] [.ref m] 0 0 (fun vv__ ww__ => (∃ (q : Nat), ∃ (ts : List Tok), ∃ (z16 : Int32), ∃ (z19 : Int32), ∃ (b20 : Nat → Int32), ∃ (b21 : Nat → Int32), vv__ = none ∧ ww__ = [(m, .inr (10, mF R v0 v7 v8 v9 v15 z16 v17 v18 z19 v27 v31 v32 v33 v34 v38 v42 v44)), ((R 14), .inl (Y 2, 120, .inl a14)), ((R 20), .inl (Y 2, 260, .inl b20)), ((R 21), .inl (Y 0, 260, .inl b21))] ∧ (z16.toInt = ((q : Nat) : Int)) ∧ (pTm c (pOp c k) 4 pos = (q, some ts)) ∧ (pos + ts.length ≤ q ∧ q ≤ L) ∧ (MC lo20 lo21 b20 b21 z19 (t0 ++ ts.map mkT))) ∨ (∃ (q : Nat), ∃ (l2 : Nat), ∃ (z16 : Int32), ∃ (z17 : Int32), ∃ (z18 : Int32), ∃ (z19 : Int32), ∃ (b20 : Nat → Int32), ∃ (b21 : Nat → Int32), vv__ = none ∧ ww__ = [(m, .inr (10, mF R v0 v7 v8 v9 v15 z16 z17 z18 z19 v27 v31 v32 v33 v34 v38 v42 v44)), ((R 14), .inl (Y 2, 120, .inl a14)), ((R 20), .inl (Y 2, 260, .inl b20)), ((R 21), .inl (Y 0, 260, .inl b21))] ∧ (z16.toInt = ((q : Nat) : Int)) ∧ (z17.toInt = ((q : Nat) : Int)) ∧ (pTm c (pOp c k) 4 pos = (q, none)) ∧ (q ≤ L) ∧ (z19.toInt = ((l2 : Nat) : Int)) ∧ (l2 + pos ≤ t0.length + q + 1) ∧ (LO lo20 lo21 b20 b21))) := by
  refine Mg_of (cc := cX11_both) (maxL := 1) (ret := none) (ls0 := [(0, .ref m)]) RX11 (by decide) rfl rfl rfl (Nat.le_of_ble_eq_true rfl) (fun p__ e__ s__ m__ b__ t__ c__ X hr hn => ?_)
  refine V_aload_n X 0 rfl dX11_both_0 ?_
  refine V_callV (C := RX11) (wr := []) (st := []) X (c_X11_compared l D Y m R v0 v7 v8 v9 v15 v16 v17 v18 v19 v27 v31 v32 v33 v34 v38 v42 v44 a14 a20 a21 L c pos lo20 lo21 t0 opn k tv15 tv16 hL hpL hCH tv17 hMC tv18 htp hok mhO) 0 gX11_both_X11_compared rfl (by decide +kernel) ⟨rfl, rfl⟩ ⟨(by simp only [headSpec]; omega), (by simp only [headSpec]; omega)⟩ [0, 1, 2, 3] [] rfl rfl rfl rfl (by decide) (ci := 10) rfl rfl 0 rfl rfl rfl (Nat.le_of_ble_eq_true rfl) ⟨Nat.le_of_ble_eq_true rfl, Nat.le_of_ble_eq_true rfl⟩ dX11_both_1 (fun v_1 w_1 h_1 => ?_)
  rcases h_1 with ⟨q_f, ts_f, z16_f, z19_f, b20_f, b21_f, rfl, rfl, tz16_f, hR_f, hqb_f, hMC2_f⟩ | ⟨q_f, l2_f, z16_f, z17_f, z18_f, z19_f, b20_f, b21_f, rfl, rfl, tz16_f, tz17_f, hR_f, hqL_f, tz19_f, hl2_f, hLO2_f⟩
  · refine V_to (pc' := 4) (ls' := [(0, .ref m)]) (st' := []) (ws' := [(m, .inr (10, mF R v0 v7 v8 v9 v15 z16_f v17 v18 z19_f v27 v31 v32 v33 v34 v38 v42 v44)), ((R 14), .inl (Y 2, 120, .inl a14)), ((R 20), .inl (Y 2, 260, .inl b20_f)), ((R 21), .inl (Y 0, 260, .inl b21_f))]) ?_ rfl rfl rfl rfl
    refine V_to (V_ind7 (fun (i : Nat) (p3 : Int32) (q3 : Nat) (z3 : Int32) (g20 : Nat → Int32) (g21 : Nat → Int32) (ts3 : List Tok) => (p3.toInt = ((q3 : Nat) : Int)) ∧ (i ≤ 120 ∧ pos + i ≤ q3) ∧ (pos + ts3.length ≤ q3 ∧ q3 ≤ L) ∧ (MC lo20 lo21 g20 g21 z3 (t0 ++ ts3.map mkT)) ∧ (pLp c (pTm c (pOp c k) 3) 1 (120 - i) q3 ts3 = pTm c (pOp c k) 4 pos)) (fun (i : Nat) (p3 : Int32) (q3 : Nat) (z3 : Int32) (g20 : Nat → Int32) (g21 : Nat → Int32) (ts3 : List Tok) => 120 - i) (fun (i : Nat) (p3 : Int32) (q3 : Nat) (z3 : Int32) (g20 : Nat → Int32) (g21 : Nat → Int32) (ts3 : List Tok) => [(0, .ref m)]) (fun (i : Nat) (p3 : Int32) (q3 : Nat) (z3 : Int32) (g20 : Nat → Int32) (g21 : Nat → Int32) (ts3 : List Tok) => [(m, .inr (10, mF R v0 v7 v8 v9 v15 p3 v17 v18 z3 v27 v31 v32 v33 v34 v38 v42 v44)), ((R 14), .inl (Y 2, 120, .inl a14)), ((R 20), .inl (Y 2, 260, .inl g20)), ((R 21), .inl (Y 0, 260, .inl g21))]) (fun i p3 q3 z3 g20 g21 ts3 hI_4 ih_4 => ?_) 0 z16_f q_f z19_f b20_f b21_f ts_f ?_) rfl rfl rfl rfl
    · obtain ⟨tp3, hi3, hqb3, hMC3, hP3⟩ := hI_4
      refine V_to (ls' := [(0, .ref m)]) (ws' := [(m, .inr (10, mF R v0 v7 v8 v9 v15 p3 v17 v18 z3 v27 v31 v32 v33 v34 v38 v42 v44)), ((R 14), .inl (Y 2, 120, .inl a14)), ((R 20), .inl (Y 2, 260, .inl g20)), ((R 21), .inl (Y 0, 260, .inl g21))]) ?_ rfl rfl rfl rfl
      refine V_aload_n X 0 rfl dX11_both_4 ?_
      refine V_get (C := RX11) (T := TX11) (N := 50) (ci := 10) (v := .int v17) X in_X11_both_X11 0 rfl rfl 17 (by decide) (List.mem_of_getElem? (i := 1) rfl) rfl rfl dX11_both_5 ?_
      refine V_if_ge X tv17 44 dX11_both_8 (by decide) (fun c_8 => absurd c_8 (by decide)) (fun _ => ?_)
      refine V_aload_n X 0 rfl dX11_both_11 ?_
      refine V_callV (C := RX11) (wr := [((R 20), .inl (Y 2, 260, .inl g20)), ((R 21), .inl (Y 0, 260, .inl g21))]) (st := []) X (c_X11_look l D Y m R v0 v7 v8 v9 v15 p3 v17 v18 z3 v27 v31 v32 v33 v34 v38 v42 v44 a14 L c q3 tv15 tp3 hL (by omega) hCH) 0 gX11_both_X11_look rfl (by decide +kernel) ⟨rfl, rfl⟩ ⟨(by simp only [headSpec]; omega), (by simp only [headSpec]; omega)⟩ [0, 1] [2, 3] rfl rfl rfl rfl (by decide) (ci := 10) rfl rfl 0 rfl rfl rfl (Nat.le_of_ble_eq_true rfl) ⟨Nat.le_of_ble_eq_true rfl, Nat.le_of_ble_eq_true rfl⟩ dX11_both_12 (fun v_12 w_12 h_12 => ?_)
      obtain ⟨r_28, rfl, rfl, hhpk_29⟩ := h_12
      refine V_to (pc' := 15) (ls' := [(0, .ref m)]) (st' := [.int r_28]) (ws' := [((R 20), .inl (Y 2, 260, .inl g20)), ((R 21), .inl (Y 0, 260, .inl g21)), (m, .inr (10, mF R v0 v7 v8 v9 v15 p3 v17 v18 z3 v27 v31 v32 v33 v34 v38 v42 v44)), ((R 14), .inl (Y 2, 120, .inl a14))]) ?_ rfl rfl rfl rfl
      refine V_bipush (v := (38 : Int32)) X (by decide) dX11_both_15 ?_
      refine V_icmp_ne X rfl (show (38 : Int32).toInt = 38 from by decide) 44 dX11_both_17 (by decide) (fun c_17 => ?_) (fun c_17 => ?_)
      · refine V_ws (ws' := [(m, .inr (10, mF R v0 v7 v8 v9 v15 p3 v17 v18 z3 v27 v31 v32 v33 v34 v38 v42 v44)), ((R 14), .inl (Y 2, 120, .inl a14)), ((R 20), .inl (Y 2, 260, .inl g20)), ((R 21), .inl (Y 0, 260, .inl g21))]) [2, 3, 0, 1] rfl rfl rfl ?_
        exact V_vret X hr dX11_both_44 (Or.inl ⟨q3, ts3, p3, z3, g20, g21, rfl, rfl, tp3, (pLp_x hP3 (Or.inr (fun h => by have h9 := lv1.mp h; omega))), hqb3, hMC3⟩)
      · have hcc : c q3 = 38 := by omega
        have hlc : lvC (c q3) = ((1 : Nat) : Int) := lv1.mpr hcc
        have hlv : 0 ≤ lvC (c q3) := by omega
        have hqlt := MCHR_lt hCH (show c q3 ≠ -1 by omega)
        refine V_aload_n X 0 rfl dX11_both_20 ?_
        refine V_dup X rfl dX11_both_21 ?_
        refine V_get (C := RX11) (T := TX11) (N := 50) (ci := 10) (v := .int p3) X in_X11_both_X11 2 rfl rfl 16 (by decide) (List.mem_of_getElem? (i := 2) rfl) rfl rfl dX11_both_22 ?_
        refine V_iconst (v := (1 : Int32)) X (by decide) dX11_both_25 ?_
        refine V_iaddZ X tp3 (show (1 : Int32).toInt = 1 from by decide) (by omega) (by omega) dX11_both_26 (fun x_30 ex_30 tx_30 => ?_)
        have tx_30 : x_30.toInt = (((q3 + 1) : Nat) : Int) := by omega
        refine V_put (C := RX11) (T := TX11) (N := 50) (ci := 10) (v := .int x_30) (ty := tyX11 16) (ws' := [((R 20), .inl (Y 2, 260, .inl g20)), ((R 21), .inl (Y 0, 260, .inl g21)), (m, .inr (10, mF R v0 v7 v8 v9 v15 x_30 v17 v18 z3 v27 v31 v32 v33 v34 v38 v42 v44)), ((R 14), .inl (Y 2, 120, .inl a14))]) X in_X11_both_X11 2 rfl rfl 16 (by decide) (List.mem_of_getElem? (i := 2) rfl) rfl tyX11 tyX11_ok nmX11 rfl (tyX11_ok 16 (by decide)) rfl rfl (Nat.le_of_ble_eq_true rfl) rfl dX11_both_27 ?_
        refine V_aload_n X 0 rfl dX11_both_30 ?_
        refine V_callV (C := RX11) (wr := []) (st := []) X (c_X11_compared l D Y m R v0 v7 v8 v9 v15 x_30 v17 v18 z3 v27 v31 v32 v33 v34 v38 v42 v44 a14 g20 g21 L c (q3 + 1) lo20 lo21 (t0 ++ ts3.map mkT) opn k tv15 tx_30 hL (by omega) hCH tv17 hMC3 tv18 (by rw [List.length_append, List.length_map]; omega) hok mhO) 0 gX11_both_X11_compared rfl (by decide +kernel) ⟨rfl, rfl⟩ ⟨(by simp only [headSpec]; omega), (by simp only [headSpec]; omega)⟩ [2, 3, 0, 1] [] rfl rfl rfl rfl (by decide) (ci := 10) rfl rfl 0 rfl rfl rfl (Nat.le_of_ble_eq_true rfl) ⟨Nat.le_of_ble_eq_true rfl, Nat.le_of_ble_eq_true rfl⟩ dX11_both_31 (fun v_31 w_31 h_31 => ?_)
        rcases h_31 with ⟨q_g, ts_g, z16_g, z19_g, b20_g, b21_g, rfl, rfl, tz16_g, hR_g, hqb_g, hMC2_g⟩ | ⟨q_g, l2_g, z16_g, z17_g, z18_g, z19_g, b20_g, b21_g, rfl, rfl, tz16_g, tz17_g, hR_g, hqL_g, tz19_g, hl2_g, hLO2_g⟩
        · refine V_to (pc' := 34) (ls' := [(0, .ref m)]) (st' := []) (ws' := [(m, .inr (10, mF R v0 v7 v8 v9 v15 z16_g v17 v18 z19_g v27 v31 v32 v33 v34 v38 v42 v44)), ((R 14), .inl (Y 2, 120, .inl a14)), ((R 20), .inl (Y 2, 260, .inl b20_g)), ((R 21), .inl (Y 0, 260, .inl b21_g))]) ?_ rfl rfl rfl rfl
          refine V_aload_n X 0 rfl dX11_both_34 ?_
          refine V_bipush (v := (38 : Int32)) X (by decide) dX11_both_35 ?_
          refine V_iconst (v := (0 : Int32)) X (by decide) dX11_both_37 ?_
          have hsg : (38 : Int32).toInt = c q3 := by rw [show (38 : Int32).toInt = 38 from by decide]; omega
          refine V_callV (C := RX11) (wr := [((R 14), .inl (Y 2, 120, .inl a14))]) (st := []) X (c_X11_addStep l D Y m R v0 v7 v8 v9 v15 z16_g v17 v18 z19_g v27 v31 v32 v33 v34 v38 v42 v44 b20_g b21_g lo20 lo21 ((t0 ++ ts3.map mkT) ++ ts_g.map mkT) (38 : Int32) (0 : Int32) hMC2_g (by rw [List.length_append, List.length_append, List.length_map, List.length_map]; omega) (by omega)) 2 gX11_both_X11_addStep rfl (by decide +kernel) ⟨rfl, rfl⟩ ⟨(by simp only [headSpec]; omega), (by simp only [headSpec]; omega)⟩ [0, 2, 3] [1] rfl rfl rfl rfl (by decide) (ci := 10) rfl rfl 0 rfl rfl rfl (Nat.le_of_ble_eq_true rfl) ⟨Nat.le_of_ble_eq_true rfl, Nat.le_of_ble_eq_true rfl⟩ dX11_both_38 (fun v_38 w_38 h_38 => ?_)
          obtain ⟨z19_a, b20_a, b21_a, rfl, rfl, hMC2_a⟩ := h_38
          refine V_to (pc' := 41) (ls' := [(0, .ref m)]) (st' := []) (ws' := [((R 14), .inl (Y 2, 120, .inl a14)), (m, .inr (10, mF R v0 v7 v8 v9 v15 z16_g v17 v18 z19_a v27 v31 v32 v33 v34 v38 v42 v44)), ((R 20), .inl (Y 2, 260, .inl b20_a)), ((R 21), .inl (Y 0, 260, .inl b21_a))]) ?_ rfl rfl rfl rfl
          have hc_0 : (0 : Int32).toInt = 0 := by decide
          have hc_38 : (38 : Int32).toInt = 38 := by decide
          refine V_goto X 4 (by decide) dX11_both_41 ?_
          refine V_ws (ws' := [(m, .inr (10, mF R v0 v7 v8 v9 v15 z16_g v17 v18 z19_a v27 v31 v32 v33 v34 v38 v42 v44)), ((R 14), .inl (Y 2, 120, .inl a14)), ((R 20), .inl (Y 2, 260, .inl b20_a)), ((R 21), .inl (Y 0, 260, .inl b21_a))]) [1, 0, 2, 3] rfl rfl rfl ?_
          exact V_to (ih_4 (i + 1) z16_g q_g z19_a b20_a b21_a (ts3 ++ ts_g ++ [(c q3, 0)]) ⟨tz16_g, (by omega), (by rw [List.length_append, List.length_append, List.length_singleton]; omega), (by have h9 := hMC2_a; rw [hsg, show (0 : Int32).toInt = 0 from by decide, mpush hlv] at h9; exact h9), (by rw [show 120 - (i + 1) = 120 - i - 1 by omega]; exact pLp_y hP3 (by omega) hlc hR_g (by omega))⟩ (by omega)) rfl rfl rfl rfl
        · refine V_to (pc' := 34) (ls' := [(0, .ref m)]) (st' := []) (ws' := [(m, .inr (10, mF R v0 v7 v8 v9 v15 z16_g z17_g z18_g z19_g v27 v31 v32 v33 v34 v38 v42 v44)), ((R 14), .inl (Y 2, 120, .inl a14)), ((R 20), .inl (Y 2, 260, .inl b20_g)), ((R 21), .inl (Y 0, 260, .inl b21_g))]) ?_ rfl rfl rfl rfl
          refine V_aload_n X 0 rfl dX11_both_34 ?_
          refine V_bipush (v := (38 : Int32)) X (by decide) dX11_both_35 ?_
          refine V_iconst (v := (0 : Int32)) X (by decide) dX11_both_37 ?_
          have hsg : (38 : Int32).toInt = c q3 := by rw [show (38 : Int32).toInt = 38 from by decide]; omega
          refine V_callV (C := RX11) (wr := [((R 14), .inl (Y 2, 120, .inl a14))]) (st := []) X (c_X11_addStepD l D Y m R v0 v7 v8 v9 v15 z16_g z17_g z18_g z19_g v27 v31 v32 v33 v34 v38 v42 v44 b20_g b21_g lo20 lo21 l2_g (38 : Int32) (0 : Int32) tz19_g hLO2_g (by rw [List.length_append, List.length_map] at hl2_g; omega)) 2 gX11_both_X11_addStep rfl (by decide +kernel) ⟨rfl, rfl⟩ ⟨(by simp only [headSpec]; omega), (by simp only [headSpec]; omega)⟩ [0, 2, 3] [1] rfl rfl rfl rfl (by decide) (ci := 10) rfl rfl 0 rfl rfl rfl (Nat.le_of_ble_eq_true rfl) ⟨Nat.le_of_ble_eq_true rfl, Nat.le_of_ble_eq_true rfl⟩ dX11_both_38 (fun v_38 w_38 h_38 => ?_)
          obtain ⟨z19_a, b20_a, b21_a, rfl, rfl, tz19_a, hLO2_a⟩ := h_38
          refine V_to (pc' := 41) (ls' := [(0, .ref m)]) (st' := []) (ws' := [((R 14), .inl (Y 2, 120, .inl a14)), (m, .inr (10, mF R v0 v7 v8 v9 v15 z16_g z17_g z18_g z19_a v27 v31 v32 v33 v34 v38 v42 v44)), ((R 20), .inl (Y 2, 260, .inl b20_a)), ((R 21), .inl (Y 0, 260, .inl b21_a))]) ?_ rfl rfl rfl rfl
          refine V_goto X 4 (by decide) dX11_both_41 ?_
          refine V_aload_n X 0 rfl dX11_both_4 ?_
          refine V_get (C := RX11) (T := TX11) (N := 50) (ci := 10) (v := .int z17_g) X in_X11_both_X11 1 rfl rfl 17 (by decide) (List.mem_of_getElem? (i := 1) rfl) rfl rfl dX11_both_5 ?_
          refine V_if_ge X tz17_g 44 dX11_both_8 (by decide) (fun c_8 => ?_) (fun c_8 => False.elim (by omega))
          refine V_ws (ws' := [(m, .inr (10, mF R v0 v7 v8 v9 v15 z16_g z17_g z18_g z19_a v27 v31 v32 v33 v34 v38 v42 v44)), ((R 14), .inl (Y 2, 120, .inl a14)), ((R 20), .inl (Y 2, 260, .inl b20_a)), ((R 21), .inl (Y 0, 260, .inl b21_a))]) [1, 0, 2, 3] rfl rfl rfl ?_
          exact V_vret X hr dX11_both_44 (Or.inr (⟨q_g, (l2_g + 1), z16_g, z17_g, z18_g, z19_a, b20_a, b21_a, rfl, rfl, tz16_g, tz17_g, (pLp_n hP3 (by omega) hlc hR_g), hqL_g, tz19_a, (by rw [List.length_append, List.length_map] at hl2_g; omega), hLO2_a⟩))
    · exact ⟨tz16_f, (by omega), hqb_f, hMC2_f, (show pLp c (pTm c (pOp c k) 3) 1 120 q_f ts_f = pBd _ _ from (pBd_s hR_f).symm)⟩
  · refine V_to (pc' := 4) (ls' := [(0, .ref m)]) (st' := []) (ws' := [(m, .inr (10, mF R v0 v7 v8 v9 v15 z16_f z17_f z18_f z19_f v27 v31 v32 v33 v34 v38 v42 v44)), ((R 14), .inl (Y 2, 120, .inl a14)), ((R 20), .inl (Y 2, 260, .inl b20_f)), ((R 21), .inl (Y 0, 260, .inl b21_f))]) ?_ rfl rfl rfl rfl
    refine V_aload_n X 0 rfl dX11_both_4 ?_
    refine V_get (C := RX11) (T := TX11) (N := 50) (ci := 10) (v := .int z17_f) X in_X11_both_X11 0 rfl rfl 17 (by decide) (List.mem_of_getElem? (i := 1) rfl) rfl rfl dX11_both_5 ?_
    refine V_if_ge X tz17_f 44 dX11_both_8 (by decide) (fun c_8 => ?_) (fun c_8 => False.elim (by omega))
    exact V_vret X hr dX11_both_44 (Or.inr (⟨q_f, l2_f, z16_f, z17_f, z18_f, z19_f, b20_f, b21_f, rfl, rfl, tz16_f, tz17_f, (pBd_n hR_f), hqL_f, tz19_f, hl2_f, hLO2_f⟩))

theorem in_X11_either_X11 : ∀ w ∈ wsX110, w ∈ wsX11_either := fun w h => List.mem_cons_of_mem _ (List.mem_append_right _ h)
set_option maxHeartbeats 4000000 in
set_option maxRecDepth 100000 in
theorem c_X11_either (l : Launch) (D : va_G) (Y : Nat → ClassId) (m : Nat) (R : Nat → Nat) (v0 : Int32) (v7 : Int32) (v8 : Int32) (v9 : Int32) (v15 : Int32) (v16 : Int32) (v17 : Int32) (v18 : Int32) (v19 : Int32) (v27 : Int32) (v31 : Int32) (v32 : Int32) (v33 : Int32) (v34 : Int32) (v38 : Int32) (v42 : Int32) (v44 : Int32) (a14 : Nat → Int32) (a20 : Nat → Int32) (a21 : Nat → Int32) (L : Nat) (c : Nat → Int) (pos : Nat) (lo20 : Nat → Int32) (lo21 : Nat → Int32) (t0 : List Tok) (opn : Nat) (k : Nat) (tv15 : v15.toInt = ((L : Nat) : Int)) (tv16 : v16.toInt = ((pos : Nat) : Int)) (hL : L ≤ 120) (hpL : pos ≤ L) (hCH : MCHR a14 L c) (tv17 : v17.toInt = (-1)) (hMC : MC lo20 lo21 a20 a21 v19 t0) (tv18 : v18.toInt = ((opn : Nat) : Int)) (htp : t0.length ≤ pos) (hok : opn + k = 6) (mhO : ∀ (l : Launch) (D : va_G) (Y : Nat → ClassId) (m : Nat) (R : Nat → Nat) (v0 : Int32) (v7 : Int32) (v8 : Int32) (v9 : Int32) (v15 : Int32) (v16 : Int32) (v17 : Int32) (v18 : Int32) (v19 : Int32) (v27 : Int32) (v31 : Int32) (v32 : Int32) (v33 : Int32) (v34 : Int32) (v38 : Int32) (v42 : Int32) (v44 : Int32) (a14 : Nat → Int32) (a20 : Nat → Int32) (a21 : Nat → Int32) (L : Nat) (c : Nat → Int) (pos : Nat) (lo20 : Nat → Int32) (lo21 : Nat → Int32) (t0 : List Tok) (opn : Nat) (tv15 : v15.toInt = ((L : Nat) : Int)) (tv16 : v16.toInt = ((pos : Nat) : Int)) (hL : L ≤ 120) (hpL : pos ≤ L) (hCH : MCHR a14 L c) (tv17 : v17.toInt = (-1)) (hMC : MC lo20 lo21 a20 a21 v19 t0) (tv18 : v18.toInt = ((opn : Nat) : Int)) (htp : t0.length ≤ pos) (hok : opn + k = 6), Mg l yX11_operand wsX11_operand ({ frames := 6 * (k) + 4, cells := 0, slots := 0, locals := 132 * (k) + 70 }) D Y [(m, .inr (10, mF R v0 v7 v8 v9 v15 v16 v17 v18 v19 v27 v31 v32 v33 v34 v38 v42 v44)), ((R 14), .inl (Y 2, 120, .inl a14)), ((R 20), .inl (Y 2, 260, .inl a20)), ((R 21), .inl (Y 0, 260, .inl a21))] [.ref m] 0 0 (fun vv__ ww__ => (∃ (q : Nat), ∃ (ts : List Tok), ∃ (z16 : Int32), ∃ (z19 : Int32), ∃ (b20 : Nat → Int32), ∃ (b21 : Nat → Int32), vv__ = none ∧ ww__ = [(m, .inr (10, mF R v0 v7 v8 v9 v15 z16 v17 v18 z19 v27 v31 v32 v33 v34 v38 v42 v44)), ((R 14), .inl (Y 2, 120, .inl a14)), ((R 20), .inl (Y 2, 260, .inl b20)), ((R 21), .inl (Y 0, 260, .inl b21))] ∧ (z16.toInt = ((q : Nat) : Int)) ∧ (pOp c k pos = (q, some ts)) ∧ (pos + ts.length ≤ q ∧ q ≤ L) ∧ (MC lo20 lo21 b20 b21 z19 (t0 ++ ts.map mkT))) ∨ (∃ (q : Nat), ∃ (l2 : Nat), ∃ (z16 : Int32), ∃ (z17 : Int32), ∃ (z18 : Int32), ∃ (z19 : Int32), ∃ (b20 : Nat → Int32), ∃ (b21 : Nat → Int32), vv__ = none ∧ ww__ = [(m, .inr (10, mF R v0 v7 v8 v9 v15 z16 z17 z18 z19 v27 v31 v32 v33 v34 v38 v42 v44)), ((R 14), .inl (Y 2, 120, .inl a14)), ((R 20), .inl (Y 2, 260, .inl b20)), ((R 21), .inl (Y 0, 260, .inl b21))] ∧ (z16.toInt = ((q : Nat) : Int)) ∧ (z17.toInt = ((q : Nat) : Int)) ∧ (pOp c k pos = (q, none)) ∧ (q ≤ L) ∧ (z19.toInt = ((l2 : Nat) : Int)) ∧ (l2 + pos ≤ t0.length + q + 1) ∧ (LO lo20 lo21 b20 b21)))) : Mg l yX11_either wsX11_either ({ frames := 6 * (k) + 4 + 5, cells := 0, slots := 0, locals := 132 * (k) + 70 + 22 * 5 }) D Y [(m, .inr (10, mF R v0 v7 v8 v9 v15 v16 v17 v18 v19 v27 v31 v32 v33 v34 v38 v42 v44)), ((R 14), .inl (Y 2, 120, .inl a14)), ((R 20), .inl (Y 2, 260, .inl a20)), ((R 21), .inl (Y 0, 260, .inl a21))] [.ref m] 0 0 (fun vv__ ww__ => (∃ (q : Nat), ∃ (ts : List Tok), ∃ (z16 : Int32), ∃ (z19 : Int32), ∃ (b20 : Nat → Int32), ∃ (b21 : Nat → Int32), vv__ = none ∧ ww__ = [(m, .inr (10, mF R v0 v7 v8 v9 v15 z16 v17 v18 z19 v27 v31 v32 v33 v34 v38 v42 v44)), ((R 14), .inl (Y 2, 120, .inl a14)), ((R 20), .inl (Y 2, 260, .inl b20)), ((R 21), .inl (Y 0, 260, .inl b21))] ∧ (z16.toInt = ((q : Nat) : Int)) ∧ (pTm c (pOp c k) 5 pos = (q, some ts)) ∧ (pos + ts.length ≤ q ∧ q ≤ L) ∧ (MC lo20 lo21 b20 b21 z19 (t0 ++ ts.map mkT))) ∨ (∃ (q : Nat), ∃ (l2 : Nat), ∃ (z16 : Int32), ∃ (z17 : Int32), ∃ (z18 : Int32), ∃ (z19 : Int32), ∃ (b20 : Nat → Int32), ∃ (b21 : Nat → Int32), vv__ = none ∧ ww__ = [(m, .inr (10, mF R v0 v7 v8 v9 v15 z16 z17 z18 z19 v27 v31 v32 v33 v34 v38 v42 v44)), ((R 14), .inl (Y 2, 120, .inl a14)), ((R 20), .inl (Y 2, 260, .inl b20)), ((R 21), .inl (Y 0, 260, .inl b21))] ∧ (z16.toInt = ((q : Nat) : Int)) ∧ (z17.toInt = ((q : Nat) : Int)) ∧ (pTm c (pOp c k) 5 pos = (q, none)) ∧ (q ≤ L) ∧ (z19.toInt = ((l2 : Nat) : Int)) ∧ (l2 + pos ≤ t0.length + q + 1) ∧ (LO lo20 lo21 b20 b21))) := by
  refine Mg_of (cc := cX11_either) (maxL := 1) (ret := none) (ls0 := [(0, .ref m)]) RX11 (by decide) rfl rfl rfl (Nat.le_of_ble_eq_true rfl) (fun p__ e__ s__ m__ b__ t__ c__ X hr hn => ?_)
  refine V_aload_n X 0 rfl dX11_either_0 ?_
  refine V_callV (C := RX11) (wr := []) (st := []) X (c_X11_both l D Y m R v0 v7 v8 v9 v15 v16 v17 v18 v19 v27 v31 v32 v33 v34 v38 v42 v44 a14 a20 a21 L c pos lo20 lo21 t0 opn k tv15 tv16 hL hpL hCH tv17 hMC tv18 htp hok mhO) 0 gX11_either_X11_both rfl (by decide +kernel) ⟨rfl, rfl⟩ ⟨(by simp only [headSpec]; omega), (by simp only [headSpec]; omega)⟩ [0, 1, 2, 3] [] rfl rfl rfl rfl (by decide) (ci := 10) rfl rfl 0 rfl rfl rfl (Nat.le_of_ble_eq_true rfl) ⟨Nat.le_of_ble_eq_true rfl, Nat.le_of_ble_eq_true rfl⟩ dX11_either_1 (fun v_1 w_1 h_1 => ?_)
  rcases h_1 with ⟨q_f, ts_f, z16_f, z19_f, b20_f, b21_f, rfl, rfl, tz16_f, hR_f, hqb_f, hMC2_f⟩ | ⟨q_f, l2_f, z16_f, z17_f, z18_f, z19_f, b20_f, b21_f, rfl, rfl, tz16_f, tz17_f, hR_f, hqL_f, tz19_f, hl2_f, hLO2_f⟩
  · refine V_to (pc' := 4) (ls' := [(0, .ref m)]) (st' := []) (ws' := [(m, .inr (10, mF R v0 v7 v8 v9 v15 z16_f v17 v18 z19_f v27 v31 v32 v33 v34 v38 v42 v44)), ((R 14), .inl (Y 2, 120, .inl a14)), ((R 20), .inl (Y 2, 260, .inl b20_f)), ((R 21), .inl (Y 0, 260, .inl b21_f))]) ?_ rfl rfl rfl rfl
    refine V_to (V_ind7 (fun (i : Nat) (p3 : Int32) (q3 : Nat) (z3 : Int32) (g20 : Nat → Int32) (g21 : Nat → Int32) (ts3 : List Tok) => (p3.toInt = ((q3 : Nat) : Int)) ∧ (i ≤ 120 ∧ pos + i ≤ q3) ∧ (pos + ts3.length ≤ q3 ∧ q3 ≤ L) ∧ (MC lo20 lo21 g20 g21 z3 (t0 ++ ts3.map mkT)) ∧ (pLp c (pTm c (pOp c k) 4) 0 (120 - i) q3 ts3 = pTm c (pOp c k) 5 pos)) (fun (i : Nat) (p3 : Int32) (q3 : Nat) (z3 : Int32) (g20 : Nat → Int32) (g21 : Nat → Int32) (ts3 : List Tok) => 120 - i) (fun (i : Nat) (p3 : Int32) (q3 : Nat) (z3 : Int32) (g20 : Nat → Int32) (g21 : Nat → Int32) (ts3 : List Tok) => [(0, .ref m)]) (fun (i : Nat) (p3 : Int32) (q3 : Nat) (z3 : Int32) (g20 : Nat → Int32) (g21 : Nat → Int32) (ts3 : List Tok) => [(m, .inr (10, mF R v0 v7 v8 v9 v15 p3 v17 v18 z3 v27 v31 v32 v33 v34 v38 v42 v44)), ((R 14), .inl (Y 2, 120, .inl a14)), ((R 20), .inl (Y 2, 260, .inl g20)), ((R 21), .inl (Y 0, 260, .inl g21))]) (fun i p3 q3 z3 g20 g21 ts3 hI_4 ih_4 => ?_) 0 z16_f q_f z19_f b20_f b21_f ts_f ?_) rfl rfl rfl rfl
    · obtain ⟨tp3, hi3, hqb3, hMC3, hP3⟩ := hI_4
      refine V_to (ls' := [(0, .ref m)]) (ws' := [(m, .inr (10, mF R v0 v7 v8 v9 v15 p3 v17 v18 z3 v27 v31 v32 v33 v34 v38 v42 v44)), ((R 14), .inl (Y 2, 120, .inl a14)), ((R 20), .inl (Y 2, 260, .inl g20)), ((R 21), .inl (Y 0, 260, .inl g21))]) ?_ rfl rfl rfl rfl
      refine V_aload_n X 0 rfl dX11_either_4 ?_
      refine V_get (C := RX11) (T := TX11) (N := 50) (ci := 10) (v := .int v17) X in_X11_either_X11 0 rfl rfl 17 (by decide) (List.mem_of_getElem? (i := 1) rfl) rfl rfl dX11_either_5 ?_
      refine V_if_ge X tv17 44 dX11_either_8 (by decide) (fun c_8 => absurd c_8 (by decide)) (fun _ => ?_)
      refine V_aload_n X 0 rfl dX11_either_11 ?_
      refine V_callV (C := RX11) (wr := [((R 20), .inl (Y 2, 260, .inl g20)), ((R 21), .inl (Y 0, 260, .inl g21))]) (st := []) X (c_X11_look l D Y m R v0 v7 v8 v9 v15 p3 v17 v18 z3 v27 v31 v32 v33 v34 v38 v42 v44 a14 L c q3 tv15 tp3 hL (by omega) hCH) 0 gX11_either_X11_look rfl (by decide +kernel) ⟨rfl, rfl⟩ ⟨(by simp only [headSpec]; omega), (by simp only [headSpec]; omega)⟩ [0, 1] [2, 3] rfl rfl rfl rfl (by decide) (ci := 10) rfl rfl 0 rfl rfl rfl (Nat.le_of_ble_eq_true rfl) ⟨Nat.le_of_ble_eq_true rfl, Nat.le_of_ble_eq_true rfl⟩ dX11_either_12 (fun v_12 w_12 h_12 => ?_)
      obtain ⟨r_28, rfl, rfl, hhpk_29⟩ := h_12
      refine V_to (pc' := 15) (ls' := [(0, .ref m)]) (st' := [.int r_28]) (ws' := [((R 20), .inl (Y 2, 260, .inl g20)), ((R 21), .inl (Y 0, 260, .inl g21)), (m, .inr (10, mF R v0 v7 v8 v9 v15 p3 v17 v18 z3 v27 v31 v32 v33 v34 v38 v42 v44)), ((R 14), .inl (Y 2, 120, .inl a14))]) ?_ rfl rfl rfl rfl
      refine V_bipush (v := (124 : Int32)) X (by decide) dX11_either_15 ?_
      refine V_icmp_ne X rfl (show (124 : Int32).toInt = 124 from by decide) 44 dX11_either_17 (by decide) (fun c_17 => ?_) (fun c_17 => ?_)
      · refine V_ws (ws' := [(m, .inr (10, mF R v0 v7 v8 v9 v15 p3 v17 v18 z3 v27 v31 v32 v33 v34 v38 v42 v44)), ((R 14), .inl (Y 2, 120, .inl a14)), ((R 20), .inl (Y 2, 260, .inl g20)), ((R 21), .inl (Y 0, 260, .inl g21))]) [2, 3, 0, 1] rfl rfl rfl ?_
        exact V_vret X hr dX11_either_44 (Or.inl ⟨q3, ts3, p3, z3, g20, g21, rfl, rfl, tp3, (pLp_x hP3 (Or.inr (fun h => by have h9 := lv0.mp h; omega))), hqb3, hMC3⟩)
      · have hcc : c q3 = 124 := by omega
        have hlc : lvC (c q3) = ((0 : Nat) : Int) := lv0.mpr hcc
        have hlv : 0 ≤ lvC (c q3) := by omega
        have hqlt := MCHR_lt hCH (show c q3 ≠ -1 by omega)
        refine V_aload_n X 0 rfl dX11_either_20 ?_
        refine V_dup X rfl dX11_either_21 ?_
        refine V_get (C := RX11) (T := TX11) (N := 50) (ci := 10) (v := .int p3) X in_X11_either_X11 2 rfl rfl 16 (by decide) (List.mem_of_getElem? (i := 2) rfl) rfl rfl dX11_either_22 ?_
        refine V_iconst (v := (1 : Int32)) X (by decide) dX11_either_25 ?_
        refine V_iaddZ X tp3 (show (1 : Int32).toInt = 1 from by decide) (by omega) (by omega) dX11_either_26 (fun x_30 ex_30 tx_30 => ?_)
        have tx_30 : x_30.toInt = (((q3 + 1) : Nat) : Int) := by omega
        refine V_put (C := RX11) (T := TX11) (N := 50) (ci := 10) (v := .int x_30) (ty := tyX11 16) (ws' := [((R 20), .inl (Y 2, 260, .inl g20)), ((R 21), .inl (Y 0, 260, .inl g21)), (m, .inr (10, mF R v0 v7 v8 v9 v15 x_30 v17 v18 z3 v27 v31 v32 v33 v34 v38 v42 v44)), ((R 14), .inl (Y 2, 120, .inl a14))]) X in_X11_either_X11 2 rfl rfl 16 (by decide) (List.mem_of_getElem? (i := 2) rfl) rfl tyX11 tyX11_ok nmX11 rfl (tyX11_ok 16 (by decide)) rfl rfl (Nat.le_of_ble_eq_true rfl) rfl dX11_either_27 ?_
        refine V_aload_n X 0 rfl dX11_either_30 ?_
        refine V_callV (C := RX11) (wr := []) (st := []) X (c_X11_both l D Y m R v0 v7 v8 v9 v15 x_30 v17 v18 z3 v27 v31 v32 v33 v34 v38 v42 v44 a14 g20 g21 L c (q3 + 1) lo20 lo21 (t0 ++ ts3.map mkT) opn k tv15 tx_30 hL (by omega) hCH tv17 hMC3 tv18 (by rw [List.length_append, List.length_map]; omega) hok mhO) 0 gX11_either_X11_both rfl (by decide +kernel) ⟨rfl, rfl⟩ ⟨(by simp only [headSpec]; omega), (by simp only [headSpec]; omega)⟩ [2, 3, 0, 1] [] rfl rfl rfl rfl (by decide) (ci := 10) rfl rfl 0 rfl rfl rfl (Nat.le_of_ble_eq_true rfl) ⟨Nat.le_of_ble_eq_true rfl, Nat.le_of_ble_eq_true rfl⟩ dX11_either_31 (fun v_31 w_31 h_31 => ?_)
        rcases h_31 with ⟨q_g, ts_g, z16_g, z19_g, b20_g, b21_g, rfl, rfl, tz16_g, hR_g, hqb_g, hMC2_g⟩ | ⟨q_g, l2_g, z16_g, z17_g, z18_g, z19_g, b20_g, b21_g, rfl, rfl, tz16_g, tz17_g, hR_g, hqL_g, tz19_g, hl2_g, hLO2_g⟩
        · refine V_to (pc' := 34) (ls' := [(0, .ref m)]) (st' := []) (ws' := [(m, .inr (10, mF R v0 v7 v8 v9 v15 z16_g v17 v18 z19_g v27 v31 v32 v33 v34 v38 v42 v44)), ((R 14), .inl (Y 2, 120, .inl a14)), ((R 20), .inl (Y 2, 260, .inl b20_g)), ((R 21), .inl (Y 0, 260, .inl b21_g))]) ?_ rfl rfl rfl rfl
          refine V_aload_n X 0 rfl dX11_either_34 ?_
          refine V_bipush (v := (124 : Int32)) X (by decide) dX11_either_35 ?_
          refine V_iconst (v := (0 : Int32)) X (by decide) dX11_either_37 ?_
          have hsg : (124 : Int32).toInt = c q3 := by rw [show (124 : Int32).toInt = 124 from by decide]; omega
          refine V_callV (C := RX11) (wr := [((R 14), .inl (Y 2, 120, .inl a14))]) (st := []) X (c_X11_addStep l D Y m R v0 v7 v8 v9 v15 z16_g v17 v18 z19_g v27 v31 v32 v33 v34 v38 v42 v44 b20_g b21_g lo20 lo21 ((t0 ++ ts3.map mkT) ++ ts_g.map mkT) (124 : Int32) (0 : Int32) hMC2_g (by rw [List.length_append, List.length_append, List.length_map, List.length_map]; omega) (by omega)) 2 gX11_either_X11_addStep rfl (by decide +kernel) ⟨rfl, rfl⟩ ⟨(by simp only [headSpec]; omega), (by simp only [headSpec]; omega)⟩ [0, 2, 3] [1] rfl rfl rfl rfl (by decide) (ci := 10) rfl rfl 0 rfl rfl rfl (Nat.le_of_ble_eq_true rfl) ⟨Nat.le_of_ble_eq_true rfl, Nat.le_of_ble_eq_true rfl⟩ dX11_either_38 (fun v_38 w_38 h_38 => ?_)
          obtain ⟨z19_a, b20_a, b21_a, rfl, rfl, hMC2_a⟩ := h_38
          refine V_to (pc' := 41) (ls' := [(0, .ref m)]) (st' := []) (ws' := [((R 14), .inl (Y 2, 120, .inl a14)), (m, .inr (10, mF R v0 v7 v8 v9 v15 z16_g v17 v18 z19_a v27 v31 v32 v33 v34 v38 v42 v44)), ((R 20), .inl (Y 2, 260, .inl b20_a)), ((R 21), .inl (Y 0, 260, .inl b21_a))]) ?_ rfl rfl rfl rfl
          have hc_0 : (0 : Int32).toInt = 0 := by decide
          have hc_124 : (124 : Int32).toInt = 124 := by decide
          refine V_goto X 4 (by decide) dX11_either_41 ?_
          refine V_ws (ws' := [(m, .inr (10, mF R v0 v7 v8 v9 v15 z16_g v17 v18 z19_a v27 v31 v32 v33 v34 v38 v42 v44)), ((R 14), .inl (Y 2, 120, .inl a14)), ((R 20), .inl (Y 2, 260, .inl b20_a)), ((R 21), .inl (Y 0, 260, .inl b21_a))]) [1, 0, 2, 3] rfl rfl rfl ?_
          exact V_to (ih_4 (i + 1) z16_g q_g z19_a b20_a b21_a (ts3 ++ ts_g ++ [(c q3, 0)]) ⟨tz16_g, (by omega), (by rw [List.length_append, List.length_append, List.length_singleton]; omega), (by have h9 := hMC2_a; rw [hsg, show (0 : Int32).toInt = 0 from by decide, mpush hlv] at h9; exact h9), (by rw [show 120 - (i + 1) = 120 - i - 1 by omega]; exact pLp_y hP3 (by omega) hlc hR_g (by omega))⟩ (by omega)) rfl rfl rfl rfl
        · refine V_to (pc' := 34) (ls' := [(0, .ref m)]) (st' := []) (ws' := [(m, .inr (10, mF R v0 v7 v8 v9 v15 z16_g z17_g z18_g z19_g v27 v31 v32 v33 v34 v38 v42 v44)), ((R 14), .inl (Y 2, 120, .inl a14)), ((R 20), .inl (Y 2, 260, .inl b20_g)), ((R 21), .inl (Y 0, 260, .inl b21_g))]) ?_ rfl rfl rfl rfl
          refine V_aload_n X 0 rfl dX11_either_34 ?_
          refine V_bipush (v := (124 : Int32)) X (by decide) dX11_either_35 ?_
          refine V_iconst (v := (0 : Int32)) X (by decide) dX11_either_37 ?_
          have hsg : (124 : Int32).toInt = c q3 := by rw [show (124 : Int32).toInt = 124 from by decide]; omega
          refine V_callV (C := RX11) (wr := [((R 14), .inl (Y 2, 120, .inl a14))]) (st := []) X (c_X11_addStepD l D Y m R v0 v7 v8 v9 v15 z16_g z17_g z18_g z19_g v27 v31 v32 v33 v34 v38 v42 v44 b20_g b21_g lo20 lo21 l2_g (124 : Int32) (0 : Int32) tz19_g hLO2_g (by rw [List.length_append, List.length_map] at hl2_g; omega)) 2 gX11_either_X11_addStep rfl (by decide +kernel) ⟨rfl, rfl⟩ ⟨(by simp only [headSpec]; omega), (by simp only [headSpec]; omega)⟩ [0, 2, 3] [1] rfl rfl rfl rfl (by decide) (ci := 10) rfl rfl 0 rfl rfl rfl (Nat.le_of_ble_eq_true rfl) ⟨Nat.le_of_ble_eq_true rfl, Nat.le_of_ble_eq_true rfl⟩ dX11_either_38 (fun v_38 w_38 h_38 => ?_)
          obtain ⟨z19_a, b20_a, b21_a, rfl, rfl, tz19_a, hLO2_a⟩ := h_38
          refine V_to (pc' := 41) (ls' := [(0, .ref m)]) (st' := []) (ws' := [((R 14), .inl (Y 2, 120, .inl a14)), (m, .inr (10, mF R v0 v7 v8 v9 v15 z16_g z17_g z18_g z19_a v27 v31 v32 v33 v34 v38 v42 v44)), ((R 20), .inl (Y 2, 260, .inl b20_a)), ((R 21), .inl (Y 0, 260, .inl b21_a))]) ?_ rfl rfl rfl rfl
          refine V_goto X 4 (by decide) dX11_either_41 ?_
          refine V_aload_n X 0 rfl dX11_either_4 ?_
          refine V_get (C := RX11) (T := TX11) (N := 50) (ci := 10) (v := .int z17_g) X in_X11_either_X11 1 rfl rfl 17 (by decide) (List.mem_of_getElem? (i := 1) rfl) rfl rfl dX11_either_5 ?_
          refine V_if_ge X tz17_g 44 dX11_either_8 (by decide) (fun c_8 => ?_) (fun c_8 => False.elim (by omega))
          refine V_ws (ws' := [(m, .inr (10, mF R v0 v7 v8 v9 v15 z16_g z17_g z18_g z19_a v27 v31 v32 v33 v34 v38 v42 v44)), ((R 14), .inl (Y 2, 120, .inl a14)), ((R 20), .inl (Y 2, 260, .inl b20_a)), ((R 21), .inl (Y 0, 260, .inl b21_a))]) [1, 0, 2, 3] rfl rfl rfl ?_
          exact V_vret X hr dX11_either_44 (Or.inr (⟨q_g, (l2_g + 1), z16_g, z17_g, z18_g, z19_a, b20_a, b21_a, rfl, rfl, tz16_g, tz17_g, (pLp_n hP3 (by omega) hlc hR_g), hqL_g, tz19_a, (by rw [List.length_append, List.length_map] at hl2_g; omega), hLO2_a⟩))
    · exact ⟨tz16_f, (by omega), hqb_f, hMC2_f, (show pLp c (pTm c (pOp c k) 4) 0 120 q_f ts_f = pBd _ _ from (pBd_s hR_f).symm)⟩
  · refine V_to (pc' := 4) (ls' := [(0, .ref m)]) (st' := []) (ws' := [(m, .inr (10, mF R v0 v7 v8 v9 v15 z16_f z17_f z18_f z19_f v27 v31 v32 v33 v34 v38 v42 v44)), ((R 14), .inl (Y 2, 120, .inl a14)), ((R 20), .inl (Y 2, 260, .inl b20_f)), ((R 21), .inl (Y 0, 260, .inl b21_f))]) ?_ rfl rfl rfl rfl
    refine V_aload_n X 0 rfl dX11_either_4 ?_
    refine V_get (C := RX11) (T := TX11) (N := 50) (ci := 10) (v := .int z17_f) X in_X11_either_X11 0 rfl rfl 17 (by decide) (List.mem_of_getElem? (i := 1) rfl) rfl rfl dX11_either_5 ?_
    refine V_if_ge X tz17_f 44 dX11_either_8 (by decide) (fun c_8 => ?_) (fun c_8 => False.elim (by omega))
    exact V_vret X hr dX11_either_44 (Or.inr (⟨q_f, l2_f, z16_f, z17_f, z18_f, z19_f, b20_f, b21_f, rfl, rfl, tz16_f, tz17_f, (pBd_n hR_f), hqL_f, tz19_f, hl2_f, hLO2_f⟩))

theorem in_X11_operand_X11 : ∀ w ∈ wsX110, w ∈ wsX11_operand := fun w h => List.mem_cons_of_mem _ (List.mem_append_right _ h)
set_option maxHeartbeats 4000000 in
set_option maxRecDepth 100000 in
theorem c_X11_operand_0 (l : Launch) (D : va_G) (Y : Nat → ClassId) (m : Nat) (R : Nat → Nat) (v0 : Int32) (v7 : Int32) (v8 : Int32) (v9 : Int32) (v15 : Int32) (v16 : Int32) (v17 : Int32) (v18 : Int32) (v19 : Int32) (v27 : Int32) (v31 : Int32) (v32 : Int32) (v33 : Int32) (v34 : Int32) (v38 : Int32) (v42 : Int32) (v44 : Int32) (a14 : Nat → Int32) (a20 : Nat → Int32) (a21 : Nat → Int32) (L : Nat) (c : Nat → Int) (pos : Nat) (lo20 : Nat → Int32) (lo21 : Nat → Int32) (t0 : List Tok) (opn : Nat) (tv15 : v15.toInt = ((L : Nat) : Int)) (tv16 : v16.toInt = ((pos : Nat) : Int)) (hL : L ≤ 120) (hpL : pos ≤ L) (hCH : MCHR a14 L c) (tv17 : v17.toInt = (-1)) (hMC : MC lo20 lo21 a20 a21 v19 t0) (tv18 : v18.toInt = ((opn : Nat) : Int)) (htp : t0.length ≤ pos) (hok : opn + 0 = 6) : Mg l yX11_operand wsX11_operand ({ frames := 6 * (0) + 4, cells := 0, slots := 0, locals := 132 * (0) + 70 }) D Y [(m, .inr (10, mF R v0 v7 v8 v9 v15 v16 v17 v18 v19 v27 v31 v32 v33 v34 v38 v42 v44)), ((R 14), .inl (Y 2, 120, .inl a14)), ((R 20), .inl (Y 2, 260, .inl a20)), ((R 21), .inl (Y 0, 260, .inl a21))] [.ref m] 0 0 (fun vv__ ww__ => (∃ (q : Nat), ∃ (ts : List Tok), ∃ (z16 : Int32), ∃ (z19 : Int32), ∃ (b20 : Nat → Int32), ∃ (b21 : Nat → Int32), vv__ = none ∧ ww__ = [(m, .inr (10, mF R v0 v7 v8 v9 v15 z16 v17 v18 z19 v27 v31 v32 v33 v34 v38 v42 v44)), ((R 14), .inl (Y 2, 120, .inl a14)), ((R 20), .inl (Y 2, 260, .inl b20)), ((R 21), .inl (Y 0, 260, .inl b21))] ∧ (z16.toInt = ((q : Nat) : Int)) ∧ (pOp c 0 pos = (q, some ts)) ∧ (pos + ts.length ≤ q ∧ q ≤ L) ∧ (MC lo20 lo21 b20 b21 z19 (t0 ++ ts.map mkT))) ∨ (∃ (q : Nat), ∃ (l2 : Nat), ∃ (z16 : Int32), ∃ (z17 : Int32), ∃ (z18 : Int32), ∃ (z19 : Int32), ∃ (b20 : Nat → Int32), ∃ (b21 : Nat → Int32), vv__ = none ∧ ww__ = [(m, .inr (10, mF R v0 v7 v8 v9 v15 z16 z17 z18 z19 v27 v31 v32 v33 v34 v38 v42 v44)), ((R 14), .inl (Y 2, 120, .inl a14)), ((R 20), .inl (Y 2, 260, .inl b20)), ((R 21), .inl (Y 0, 260, .inl b21))] ∧ (z16.toInt = ((q : Nat) : Int)) ∧ (z17.toInt = ((q : Nat) : Int)) ∧ (pOp c 0 pos = (q, none)) ∧ (q ≤ L) ∧ (z19.toInt = ((l2 : Nat) : Int)) ∧ (l2 + pos ≤ t0.length + q + 1) ∧ (LO lo20 lo21 b20 b21))) := by
  refine Mg_of (cc := cX11_operand) (maxL := 2) (ret := none) (ls0 := [(0, .ref m)]) RX11 (by decide) rfl rfl rfl (Nat.le_of_ble_eq_true rfl) (fun p__ e__ s__ m__ b__ t__ c__ X hr hn => ?_)
  refine V_aload_n X 0 rfl dX11_operand_0 ?_
  refine V_callV (C := RX11) (wr := [((R 20), .inl (Y 2, 260, .inl a20)), ((R 21), .inl (Y 0, 260, .inl a21))]) (st := []) X (c_X11_look l D Y m R v0 v7 v8 v9 v15 v16 v17 v18 v19 v27 v31 v32 v33 v34 v38 v42 v44 a14 L c pos tv15 tv16 hL hpL hCH) 0 gX11_operand_X11_look rfl (by decide +kernel) ⟨rfl, rfl⟩ ⟨(by simp only [headSpec]; omega), (by simp only [headSpec]; omega)⟩ [0, 1] [2, 3] rfl rfl rfl rfl (by decide) (ci := 10) rfl rfl 0 rfl rfl rfl (Nat.le_of_ble_eq_true rfl) ⟨Nat.le_of_ble_eq_true rfl, Nat.le_of_ble_eq_true rfl⟩ dX11_operand_1 (fun v_1 w_1 h_1 => ?_)
  obtain ⟨r_2, rfl, rfl, hhpk_3⟩ := h_1
  refine V_to (pc' := 4) (ls' := [(0, .ref m)]) (st' := [.int r_2]) (ws' := [((R 20), .inl (Y 2, 260, .inl a20)), ((R 21), .inl (Y 0, 260, .inl a21)), (m, .inr (10, mF R v0 v7 v8 v9 v15 v16 v17 v18 v19 v27 v31 v32 v33 v34 v38 v42 v44)), ((R 14), .inl (Y 2, 120, .inl a14))]) ?_ rfl rfl rfl rfl
  refine V_istore_n (ls' := [(1, .int r_2), (0, .ref m)]) X (by decide) rfl dX11_operand_4 ?_
  refine V_iload_n X 0 rfl dX11_operand_5 ?_
  have hnmC := nmC_M hhpk_3
  refine V_callS (wr := [((R 20), .inl (Y 2, 260, .inl a20)), ((R 21), .inl (Y 0, 260, .inl a21)), (m, .inr (10, mF R v0 v7 v8 v9 v15 v16 v17 v18 v19 v27 v31 v32 v33 v34 v38 v42 v44)), ((R 14), .inl (Y 2, 120, .inl a14))]) (st := []) X (c_X11_nameOf l D Y r_2) 1 gX11_operand_X11_nameOf rfl (by decide +kernel) ⟨rfl, rfl⟩ ⟨(by simp only [headSpec]; omega), (by simp only [headSpec]; omega)⟩ [] [0, 1, 2, 3] rfl rfl rfl rfl (by decide) rfl rfl (Nat.le_of_ble_eq_true rfl) ⟨Nat.le_of_ble_eq_true rfl, Nat.le_of_ble_eq_true rfl⟩ dX11_operand_6 (fun v_6 w_6 h_6 => ?_)
  obtain ⟨r_5, rfl, rfl, htr_6⟩ := h_6
  refine V_to (pc' := 9) (ls' := [(1, .int r_2), (0, .ref m)]) (st' := [.int r_5]) (ws' := [((R 20), .inl (Y 2, 260, .inl a20)), ((R 21), .inl (Y 0, 260, .inl a21)), (m, .inr (10, mF R v0 v7 v8 v9 v15 v16 v17 v18 v19 v27 v31 v32 v33 v34 v38 v42 v44)), ((R 14), .inl (Y 2, 120, .inl a14))]) ?_ rfl rfl rfl rfl
  refine V_if_lt X htr_6 34 dX11_operand_9 (by decide) (fun c_9 => ?_) (fun c_9 => ?_)
  · have hnn : nmC (c pos) < 0 := by omega
    refine V_iload_n X 0 rfl dX11_operand_34 ?_
    refine V_bipush (v := (33 : Int32)) X (by decide) dX11_operand_35 ?_
    refine V_icmp_eq X rfl (show (33 : Int32).toInt = 33 from by decide) 46 dX11_operand_37 (by decide) (fun c_37 => ?_) (fun c_37 => ?_)
    · have hqlt0 := MCHR_lt hCH (show c pos ≠ -1 by omega)
      have hqlt : pos < 120 := by omega
      refine V_aload_n X 1 rfl dX11_operand_46 ?_
      refine V_callV (C := RX11) (wr := [((R 20), .inl (Y 2, 260, .inl a20)), ((R 21), .inl (Y 0, 260, .inl a21)), ((R 14), .inl (Y 2, 120, .inl a14))]) (st := []) X (c_X11_opens l D Y m R v0 v7 v8 v9 v15 v16 v17 v18 v19 v27 v31 v32 v33 v34 v38 v42 v44 pos opn tv17 tv16 hqlt tv18 (by omega)) 0 gX11_operand_X11_opens rfl (by decide +kernel) ⟨rfl, rfl⟩ ⟨(by simp only [headSpec]; omega), (by simp only [headSpec]; omega)⟩ [2] [0, 1, 3] rfl rfl rfl rfl (by decide) (ci := 10) rfl rfl 0 rfl rfl rfl (Nat.le_of_ble_eq_true rfl) ⟨Nat.le_of_ble_eq_true rfl, Nat.le_of_ble_eq_true rfl⟩ dX11_operand_47 (fun v_47 w_47 h_47 => ?_)
      rcases h_47 with ⟨rfl, rfl, hh6_8⟩ | ⟨z16_o, z18_o, rfl, rfl, hh6_11, tz16_o, tz18_o⟩
      · refine V_to (pc' := 50) (ls' := [(1, .int r_2), (0, .ref m)]) (st' := [.int (0 : Int32)]) (ws' := [((R 20), .inl (Y 2, 260, .inl a20)), ((R 21), .inl (Y 0, 260, .inl a21)), ((R 14), .inl (Y 2, 120, .inl a14)), (m, .inr (10, mF R v0 v7 v8 v9 v15 v16 v16 v18 v19 v27 v31 v32 v33 v34 v38 v42 v44))]) ?_ rfl rfl rfl rfl
        refine V_if_ne X (show (0 : Int32).toInt = 0 from by decide) 54 dX11_operand_50 (by decide) (fun c_50 => absurd c_50 (by decide)) (fun _ => ?_)
        refine V_ws (ws' := [(m, .inr (10, mF R v0 v7 v8 v9 v15 v16 v16 v18 v19 v27 v31 v32 v33 v34 v38 v42 v44)), ((R 14), .inl (Y 2, 120, .inl a14)), ((R 20), .inl (Y 2, 260, .inl a20)), ((R 21), .inl (Y 0, 260, .inl a21))]) [3, 2, 0, 1] rfl rfl rfl ?_
        exact V_vret X hr dX11_operand_53 (Or.inr (⟨pos, t0.length, v16, v16, v18, v19, a20, a21, rfl, rfl, (by omega), (by omega), (pOp_x (by omega) hnn (Or.inl rfl)), (by omega), hMC.1, (by omega), hMC.2.1⟩))
      · exfalso; omega
    · refine V_iload_n X 0 rfl dX11_operand_40 ?_
      refine V_bipush (v := (45 : Int32)) X (by decide) dX11_operand_41 ?_
      refine V_icmp_ne X rfl (show (45 : Int32).toInt = 45 from by decide) 87 dX11_operand_43 (by decide) (fun c_43 => ?_) (fun c_43 => ?_)
      · refine V_iload_n X 0 rfl dX11_operand_87 ?_
        refine V_bipush (v := (40 : Int32)) X (by decide) dX11_operand_88 ?_
        refine V_icmp_ne X rfl (show (40 : Int32).toInt = 40 from by decide) 150 dX11_operand_90 (by decide) (fun c_90 => ?_) (fun c_90 => ?_)
        · refine V_aload_n X 1 rfl dX11_operand_150 ?_
          refine V_callV (C := RX11) (wr := []) (st := []) X (c_X11_figure l D Y m R v0 v7 v8 v9 v15 v16 v17 v18 v19 v27 v31 v32 v33 v34 v38 v42 v44 a14 a20 a21 L c pos lo20 lo21 t0 opn tv15 tv16 hL hpL hCH tv17 hMC tv18 htp (by omega)) 0 gX11_operand_X11_figure rfl (by decide +kernel) ⟨rfl, rfl⟩ ⟨(by simp only [headSpec]; omega), (by simp only [headSpec]; omega)⟩ [2, 3, 0, 1] [] rfl rfl rfl rfl (by decide) (ci := 10) rfl rfl 0 rfl rfl rfl (Nat.le_of_ble_eq_true rfl) ⟨Nat.le_of_ble_eq_true rfl, Nat.le_of_ble_eq_true rfl⟩ dX11_operand_151 (fun v_151 w_151 h_151 => ?_)
          rcases h_151 with ⟨q_n, ts_n, z16_n, z19_n, b20_n, b21_n, rfl, rfl, tz16_n, hR_n, hqb_n, hMC2_n⟩ | ⟨q_n, l2_n, z16_n, z17_n, z18_n, z19_n, b20_n, b21_n, rfl, rfl, tz16_n, tz17_n, hR_n, hqL_n, tz19_n, hl2_n, hLO2_n⟩
          · refine V_to (pc' := 154) (ls' := [(1, .int r_2), (0, .ref m)]) (st' := []) (ws' := [(m, .inr (10, mF R v0 v7 v8 v9 v15 z16_n v17 v18 z19_n v27 v31 v32 v33 v34 v38 v42 v44)), ((R 14), .inl (Y 2, 120, .inl a14)), ((R 20), .inl (Y 2, 260, .inl b20_n)), ((R 21), .inl (Y 0, 260, .inl b21_n))]) ?_ rfl rfl rfl rfl
            exact V_vret X hr dX11_operand_154 (Or.inl ⟨q_n, ts_n, z16_n, z19_n, b20_n, b21_n, rfl, rfl, (by omega), ((pOp_f (by omega) (by omega)).trans hR_n), hqb_n, hMC2_n⟩)
          · refine V_to (pc' := 154) (ls' := [(1, .int r_2), (0, .ref m)]) (st' := []) (ws' := [(m, .inr (10, mF R v0 v7 v8 v9 v15 z16_n z17_n z18_n z19_n v27 v31 v32 v33 v34 v38 v42 v44)), ((R 14), .inl (Y 2, 120, .inl a14)), ((R 20), .inl (Y 2, 260, .inl b20_n)), ((R 21), .inl (Y 0, 260, .inl b21_n))]) ?_ rfl rfl rfl rfl
            exact V_vret X hr dX11_operand_154 (Or.inr (⟨q_n, l2_n, z16_n, z17_n, z18_n, z19_n, b20_n, b21_n, rfl, rfl, (by omega), (by omega), ((pOp_f (by omega) (by omega)).trans hR_n), (by omega), tz19_n, hl2_n, hLO2_n⟩))
        · have hqlt0 := MCHR_lt hCH (show c pos ≠ -1 by omega)
          have hqlt : pos < 120 := by omega
          refine V_aload_n X 1 rfl dX11_operand_93 ?_
          refine V_callV (C := RX11) (wr := [((R 20), .inl (Y 2, 260, .inl a20)), ((R 21), .inl (Y 0, 260, .inl a21)), ((R 14), .inl (Y 2, 120, .inl a14))]) (st := []) X (c_X11_opens l D Y m R v0 v7 v8 v9 v15 v16 v17 v18 v19 v27 v31 v32 v33 v34 v38 v42 v44 pos opn tv17 tv16 hqlt tv18 (by omega)) 0 gX11_operand_X11_opens rfl (by decide +kernel) ⟨rfl, rfl⟩ ⟨(by simp only [headSpec]; omega), (by simp only [headSpec]; omega)⟩ [2] [0, 1, 3] rfl rfl rfl rfl (by decide) (ci := 10) rfl rfl 0 rfl rfl rfl (Nat.le_of_ble_eq_true rfl) ⟨Nat.le_of_ble_eq_true rfl, Nat.le_of_ble_eq_true rfl⟩ dX11_operand_94 (fun v_94 w_94 h_94 => ?_)
          rcases h_94 with ⟨rfl, rfl, hh6_41⟩ | ⟨z16_o, z18_o, rfl, rfl, hh6_44, tz16_o, tz18_o⟩
          · refine V_to (pc' := 97) (ls' := [(1, .int r_2), (0, .ref m)]) (st' := [.int (0 : Int32)]) (ws' := [((R 20), .inl (Y 2, 260, .inl a20)), ((R 21), .inl (Y 0, 260, .inl a21)), ((R 14), .inl (Y 2, 120, .inl a14)), (m, .inr (10, mF R v0 v7 v8 v9 v15 v16 v16 v18 v19 v27 v31 v32 v33 v34 v38 v42 v44))]) ?_ rfl rfl rfl rfl
            refine V_if_ne X (show (0 : Int32).toInt = 0 from by decide) 101 dX11_operand_97 (by decide) (fun c_97 => absurd c_97 (by decide)) (fun _ => ?_)
            refine V_ws (ws' := [(m, .inr (10, mF R v0 v7 v8 v9 v15 v16 v16 v18 v19 v27 v31 v32 v33 v34 v38 v42 v44)), ((R 14), .inl (Y 2, 120, .inl a14)), ((R 20), .inl (Y 2, 260, .inl a20)), ((R 21), .inl (Y 0, 260, .inl a21))]) [3, 2, 0, 1] rfl rfl rfl ?_
            exact V_vret X hr dX11_operand_100 (Or.inr (⟨pos, t0.length, v16, v16, v18, v19, a20, a21, rfl, rfl, (by omega), (by omega), (pOp_x (by omega) hnn (Or.inl rfl)), (by omega), hMC.1, (by omega), hMC.2.1⟩))
          · exfalso; omega
      · have hqlt0 := MCHR_lt hCH (show c pos ≠ -1 by omega)
        have hqlt : pos < 120 := by omega
        refine V_aload_n X 1 rfl dX11_operand_46 ?_
        refine V_callV (C := RX11) (wr := [((R 20), .inl (Y 2, 260, .inl a20)), ((R 21), .inl (Y 0, 260, .inl a21)), ((R 14), .inl (Y 2, 120, .inl a14))]) (st := []) X (c_X11_opens l D Y m R v0 v7 v8 v9 v15 v16 v17 v18 v19 v27 v31 v32 v33 v34 v38 v42 v44 pos opn tv17 tv16 hqlt tv18 (by omega)) 0 gX11_operand_X11_opens rfl (by decide +kernel) ⟨rfl, rfl⟩ ⟨(by simp only [headSpec]; omega), (by simp only [headSpec]; omega)⟩ [2] [0, 1, 3] rfl rfl rfl rfl (by decide) (ci := 10) rfl rfl 0 rfl rfl rfl (Nat.le_of_ble_eq_true rfl) ⟨Nat.le_of_ble_eq_true rfl, Nat.le_of_ble_eq_true rfl⟩ dX11_operand_47 (fun v_47 w_47 h_47 => ?_)
        rcases h_47 with ⟨rfl, rfl, hh6_48⟩ | ⟨z16_o, z18_o, rfl, rfl, hh6_51, tz16_o, tz18_o⟩
        · refine V_to (pc' := 50) (ls' := [(1, .int r_2), (0, .ref m)]) (st' := [.int (0 : Int32)]) (ws' := [((R 20), .inl (Y 2, 260, .inl a20)), ((R 21), .inl (Y 0, 260, .inl a21)), ((R 14), .inl (Y 2, 120, .inl a14)), (m, .inr (10, mF R v0 v7 v8 v9 v15 v16 v16 v18 v19 v27 v31 v32 v33 v34 v38 v42 v44))]) ?_ rfl rfl rfl rfl
          refine V_if_ne X (show (0 : Int32).toInt = 0 from by decide) 54 dX11_operand_50 (by decide) (fun c_50 => absurd c_50 (by decide)) (fun _ => ?_)
          refine V_ws (ws' := [(m, .inr (10, mF R v0 v7 v8 v9 v15 v16 v16 v18 v19 v27 v31 v32 v33 v34 v38 v42 v44)), ((R 14), .inl (Y 2, 120, .inl a14)), ((R 20), .inl (Y 2, 260, .inl a20)), ((R 21), .inl (Y 0, 260, .inl a21))]) [3, 2, 0, 1] rfl rfl rfl ?_
          exact V_vret X hr dX11_operand_53 (Or.inr (⟨pos, t0.length, v16, v16, v18, v19, a20, a21, rfl, rfl, (by omega), (by omega), (pOp_x (by omega) hnn (Or.inl rfl)), (by omega), hMC.1, (by omega), hMC.2.1⟩))
        · exfalso; omega
  · have hqlt := MCHR_lt hCH (show c pos ≠ -1 by intro h; have h9 := nmC_big (show 0 ≤ nmC (c pos) by omega); omega)
    have hxx := nmC_big (show 0 ≤ nmC (c pos) by omega)
    refine V_aload_n X 1 rfl dX11_operand_12 ?_
    refine V_iconst (v := (2 : Int32)) X (by decide) dX11_operand_13 ?_
    refine V_iload_n X 0 rfl dX11_operand_14 ?_
    refine V_callS (wr := [((R 20), .inl (Y 2, 260, .inl a20)), ((R 21), .inl (Y 0, 260, .inl a21)), (m, .inr (10, mF R v0 v7 v8 v9 v15 v16 v17 v18 v19 v27 v31 v32 v33 v34 v38 v42 v44)), ((R 14), .inl (Y 2, 120, .inl a14))]) (st := [.int (2 : Int32), .ref m]) X (c_X11_nameOf l D Y r_2) 1 gX11_operand_X11_nameOf rfl (by decide +kernel) ⟨rfl, rfl⟩ ⟨(by simp only [headSpec]; omega), (by simp only [headSpec]; omega)⟩ [] [0, 1, 2, 3] rfl rfl rfl rfl (by decide) rfl rfl (Nat.le_of_ble_eq_true rfl) ⟨Nat.le_of_ble_eq_true rfl, Nat.le_of_ble_eq_true rfl⟩ dX11_operand_15 (fun v_15 w_15 h_15 => ?_)
    obtain ⟨r_55, rfl, rfl, htr_56⟩ := h_15
    refine V_to (pc' := 18) (ls' := [(1, .int r_2), (0, .ref m)]) (st' := [.int r_55, .int (2 : Int32), .ref m]) (ws' := [((R 20), .inl (Y 2, 260, .inl a20)), ((R 21), .inl (Y 0, 260, .inl a21)), (m, .inr (10, mF R v0 v7 v8 v9 v15 v16 v17 v18 v19 v27 v31 v32 v33 v34 v38 v42 v44)), ((R 14), .inl (Y 2, 120, .inl a14))]) ?_ rfl rfl rfl rfl
    refine V_callV (C := RX11) (wr := [((R 14), .inl (Y 2, 120, .inl a14))]) (st := []) X (c_X11_addStep l D Y m R v0 v7 v8 v9 v15 v16 v17 v18 v19 v27 v31 v32 v33 v34 v38 v42 v44 a20 a21 lo20 lo21 t0 (2 : Int32) r_55 hMC (by omega) (by decide)) 2 gX11_operand_X11_addStep rfl (by decide +kernel) ⟨rfl, rfl⟩ ⟨(by simp only [headSpec]; omega), (by simp only [headSpec]; omega)⟩ [2, 0, 1] [3] rfl rfl rfl rfl (by decide) (ci := 10) rfl rfl 0 rfl rfl rfl (Nat.le_of_ble_eq_true rfl) ⟨Nat.le_of_ble_eq_true rfl, Nat.le_of_ble_eq_true rfl⟩ dX11_operand_18 (fun v_18 w_18 h_18 => ?_)
    obtain ⟨z19_a, b20_a, b21_a, rfl, rfl, hMC2_a⟩ := h_18
    refine V_to (pc' := 21) (ls' := [(1, .int r_2), (0, .ref m)]) (st' := []) (ws' := [((R 14), .inl (Y 2, 120, .inl a14)), (m, .inr (10, mF R v0 v7 v8 v9 v15 v16 v17 v18 z19_a v27 v31 v32 v33 v34 v38 v42 v44)), ((R 20), .inl (Y 2, 260, .inl b20_a)), ((R 21), .inl (Y 0, 260, .inl b21_a))]) ?_ rfl rfl rfl rfl
    have hc_2 : (2 : Int32).toInt = 2 := by decide
    refine V_aload_n X 1 rfl dX11_operand_21 ?_
    refine V_dup X rfl dX11_operand_22 ?_
    refine V_get (C := RX11) (T := TX11) (N := 50) (ci := 10) (v := .int v16) X in_X11_operand_X11 1 rfl rfl 16 (by decide) (List.mem_of_getElem? (i := 1) rfl) rfl rfl dX11_operand_23 ?_
    refine V_iconst (v := (1 : Int32)) X (by decide) dX11_operand_26 ?_
    refine V_iaddZ X tv16 (show (1 : Int32).toInt = 1 from by decide) (by omega) (by omega) dX11_operand_27 (fun x_62 ex_62 tx_62 => ?_)
    have tx_62 : x_62.toInt = (((pos + 1) : Nat) : Int) := by omega
    refine V_put (C := RX11) (T := TX11) (N := 50) (ci := 10) (v := .int x_62) (ty := tyX11 16) (ws' := [((R 14), .inl (Y 2, 120, .inl a14)), (m, .inr (10, mF R v0 v7 v8 v9 v15 x_62 v17 v18 z19_a v27 v31 v32 v33 v34 v38 v42 v44)), ((R 20), .inl (Y 2, 260, .inl b20_a)), ((R 21), .inl (Y 0, 260, .inl b21_a))]) X in_X11_operand_X11 1 rfl rfl 16 (by decide) (List.mem_of_getElem? (i := 1) rfl) rfl tyX11 tyX11_ok nmX11 rfl (tyX11_ok 16 (by decide)) rfl rfl (Nat.le_of_ble_eq_true rfl) rfl dX11_operand_28 ?_
    refine V_goto X 154 (by decide) dX11_operand_31 ?_
    refine V_ws (ws' := [(m, .inr (10, mF R v0 v7 v8 v9 v15 x_62 v17 v18 z19_a v27 v31 v32 v33 v34 v38 v42 v44)), ((R 14), .inl (Y 2, 120, .inl a14)), ((R 20), .inl (Y 2, 260, .inl b20_a)), ((R 21), .inl (Y 0, 260, .inl b21_a))]) [1, 0, 2, 3] rfl rfl rfl ?_
    exact V_vret X hr dX11_operand_154 (Or.inl ⟨(pos + 1), [(97, nmC (c pos))], x_62, z19_a, b20_a, b21_a, rfl, rfl, (by omega), ((pOp_n (by have h9 := nmC_big (show 0 ≤ nmC (c pos) by omega); omega) (by omega))), ⟨Nat.le_refl _, by omega⟩, (by have h9 := hMC2_a; rw [show (2 : Int32).toInt = 2 from by decide, show r_55.toInt = nmC (c pos) by omega] at h9; exact h9)⟩)

set_option maxHeartbeats 4000000 in
set_option maxRecDepth 100000 in
theorem c_X11_operand_s (l : Launch) (D : va_G) (Y : Nat → ClassId) (m : Nat) (R : Nat → Nat) (v0 : Int32) (v7 : Int32) (v8 : Int32) (v9 : Int32) (v15 : Int32) (v16 : Int32) (v17 : Int32) (v18 : Int32) (v19 : Int32) (v27 : Int32) (v31 : Int32) (v32 : Int32) (v33 : Int32) (v34 : Int32) (v38 : Int32) (v42 : Int32) (v44 : Int32) (a14 : Nat → Int32) (a20 : Nat → Int32) (a21 : Nat → Int32) (L : Nat) (c : Nat → Int) (pos : Nat) (lo20 : Nat → Int32) (lo21 : Nat → Int32) (t0 : List Tok) (opn : Nat) (k : Nat) (tv15 : v15.toInt = ((L : Nat) : Int)) (tv16 : v16.toInt = ((pos : Nat) : Int)) (hL : L ≤ 120) (hpL : pos ≤ L) (hCH : MCHR a14 L c) (tv17 : v17.toInt = (-1)) (hMC : MC lo20 lo21 a20 a21 v19 t0) (tv18 : v18.toInt = ((opn : Nat) : Int)) (htp : t0.length ≤ pos) (hok : opn + (k + 1) = 6) (mhO : ∀ (l : Launch) (D : va_G) (Y : Nat → ClassId) (m : Nat) (R : Nat → Nat) (v0 : Int32) (v7 : Int32) (v8 : Int32) (v9 : Int32) (v15 : Int32) (v16 : Int32) (v17 : Int32) (v18 : Int32) (v19 : Int32) (v27 : Int32) (v31 : Int32) (v32 : Int32) (v33 : Int32) (v34 : Int32) (v38 : Int32) (v42 : Int32) (v44 : Int32) (a14 : Nat → Int32) (a20 : Nat → Int32) (a21 : Nat → Int32) (L : Nat) (c : Nat → Int) (pos : Nat) (lo20 : Nat → Int32) (lo21 : Nat → Int32) (t0 : List Tok) (opn : Nat) (tv15 : v15.toInt = ((L : Nat) : Int)) (tv16 : v16.toInt = ((pos : Nat) : Int)) (hL : L ≤ 120) (hpL : pos ≤ L) (hCH : MCHR a14 L c) (tv17 : v17.toInt = (-1)) (hMC : MC lo20 lo21 a20 a21 v19 t0) (tv18 : v18.toInt = ((opn : Nat) : Int)) (htp : t0.length ≤ pos) (hok : opn + k = 6), Mg l yX11_operand wsX11_operand ({ frames := 6 * (k) + 4, cells := 0, slots := 0, locals := 132 * (k) + 70 }) D Y [(m, .inr (10, mF R v0 v7 v8 v9 v15 v16 v17 v18 v19 v27 v31 v32 v33 v34 v38 v42 v44)), ((R 14), .inl (Y 2, 120, .inl a14)), ((R 20), .inl (Y 2, 260, .inl a20)), ((R 21), .inl (Y 0, 260, .inl a21))] [.ref m] 0 0 (fun vv__ ww__ => (∃ (q : Nat), ∃ (ts : List Tok), ∃ (z16 : Int32), ∃ (z19 : Int32), ∃ (b20 : Nat → Int32), ∃ (b21 : Nat → Int32), vv__ = none ∧ ww__ = [(m, .inr (10, mF R v0 v7 v8 v9 v15 z16 v17 v18 z19 v27 v31 v32 v33 v34 v38 v42 v44)), ((R 14), .inl (Y 2, 120, .inl a14)), ((R 20), .inl (Y 2, 260, .inl b20)), ((R 21), .inl (Y 0, 260, .inl b21))] ∧ (z16.toInt = ((q : Nat) : Int)) ∧ (pOp c k pos = (q, some ts)) ∧ (pos + ts.length ≤ q ∧ q ≤ L) ∧ (MC lo20 lo21 b20 b21 z19 (t0 ++ ts.map mkT))) ∨ (∃ (q : Nat), ∃ (l2 : Nat), ∃ (z16 : Int32), ∃ (z17 : Int32), ∃ (z18 : Int32), ∃ (z19 : Int32), ∃ (b20 : Nat → Int32), ∃ (b21 : Nat → Int32), vv__ = none ∧ ww__ = [(m, .inr (10, mF R v0 v7 v8 v9 v15 z16 z17 z18 z19 v27 v31 v32 v33 v34 v38 v42 v44)), ((R 14), .inl (Y 2, 120, .inl a14)), ((R 20), .inl (Y 2, 260, .inl b20)), ((R 21), .inl (Y 0, 260, .inl b21))] ∧ (z16.toInt = ((q : Nat) : Int)) ∧ (z17.toInt = ((q : Nat) : Int)) ∧ (pOp c k pos = (q, none)) ∧ (q ≤ L) ∧ (z19.toInt = ((l2 : Nat) : Int)) ∧ (l2 + pos ≤ t0.length + q + 1) ∧ (LO lo20 lo21 b20 b21)))) : Mg l yX11_operand wsX11_operand ({ frames := 6 * ((k + 1)) + 4, cells := 0, slots := 0, locals := 132 * ((k + 1)) + 70 }) D Y [(m, .inr (10, mF R v0 v7 v8 v9 v15 v16 v17 v18 v19 v27 v31 v32 v33 v34 v38 v42 v44)), ((R 14), .inl (Y 2, 120, .inl a14)), ((R 20), .inl (Y 2, 260, .inl a20)), ((R 21), .inl (Y 0, 260, .inl a21))] [.ref m] 0 0 (fun vv__ ww__ => (∃ (q : Nat), ∃ (ts : List Tok), ∃ (z16 : Int32), ∃ (z19 : Int32), ∃ (b20 : Nat → Int32), ∃ (b21 : Nat → Int32), vv__ = none ∧ ww__ = [(m, .inr (10, mF R v0 v7 v8 v9 v15 z16 v17 v18 z19 v27 v31 v32 v33 v34 v38 v42 v44)), ((R 14), .inl (Y 2, 120, .inl a14)), ((R 20), .inl (Y 2, 260, .inl b20)), ((R 21), .inl (Y 0, 260, .inl b21))] ∧ (z16.toInt = ((q : Nat) : Int)) ∧ (pOp c (k + 1) pos = (q, some ts)) ∧ (pos + ts.length ≤ q ∧ q ≤ L) ∧ (MC lo20 lo21 b20 b21 z19 (t0 ++ ts.map mkT))) ∨ (∃ (q : Nat), ∃ (l2 : Nat), ∃ (z16 : Int32), ∃ (z17 : Int32), ∃ (z18 : Int32), ∃ (z19 : Int32), ∃ (b20 : Nat → Int32), ∃ (b21 : Nat → Int32), vv__ = none ∧ ww__ = [(m, .inr (10, mF R v0 v7 v8 v9 v15 z16 z17 z18 z19 v27 v31 v32 v33 v34 v38 v42 v44)), ((R 14), .inl (Y 2, 120, .inl a14)), ((R 20), .inl (Y 2, 260, .inl b20)), ((R 21), .inl (Y 0, 260, .inl b21))] ∧ (z16.toInt = ((q : Nat) : Int)) ∧ (z17.toInt = ((q : Nat) : Int)) ∧ (pOp c (k + 1) pos = (q, none)) ∧ (q ≤ L) ∧ (z19.toInt = ((l2 : Nat) : Int)) ∧ (l2 + pos ≤ t0.length + q + 1) ∧ (LO lo20 lo21 b20 b21))) := by
  refine Mg_of (cc := cX11_operand) (maxL := 2) (ret := none) (ls0 := [(0, .ref m)]) RX11 (by decide) rfl rfl rfl (Nat.le_of_ble_eq_true rfl) (fun p__ e__ s__ m__ b__ t__ c__ X hr hn => ?_)
  refine V_aload_n X 0 rfl dX11_operand_0 ?_
  refine V_callV (C := RX11) (wr := [((R 20), .inl (Y 2, 260, .inl a20)), ((R 21), .inl (Y 0, 260, .inl a21))]) (st := []) X (c_X11_look l D Y m R v0 v7 v8 v9 v15 v16 v17 v18 v19 v27 v31 v32 v33 v34 v38 v42 v44 a14 L c pos tv15 tv16 hL hpL hCH) 0 gX11_operand_X11_look rfl (by decide +kernel) ⟨rfl, rfl⟩ ⟨(by simp only [headSpec]; omega), (by simp only [headSpec]; omega)⟩ [0, 1] [2, 3] rfl rfl rfl rfl (by decide) (ci := 10) rfl rfl 0 rfl rfl rfl (Nat.le_of_ble_eq_true rfl) ⟨Nat.le_of_ble_eq_true rfl, Nat.le_of_ble_eq_true rfl⟩ dX11_operand_1 (fun v_1 w_1 h_1 => ?_)
  obtain ⟨r_2, rfl, rfl, hhpk_3⟩ := h_1
  refine V_to (pc' := 4) (ls' := [(0, .ref m)]) (st' := [.int r_2]) (ws' := [((R 20), .inl (Y 2, 260, .inl a20)), ((R 21), .inl (Y 0, 260, .inl a21)), (m, .inr (10, mF R v0 v7 v8 v9 v15 v16 v17 v18 v19 v27 v31 v32 v33 v34 v38 v42 v44)), ((R 14), .inl (Y 2, 120, .inl a14))]) ?_ rfl rfl rfl rfl
  refine V_istore_n (ls' := [(1, .int r_2), (0, .ref m)]) X (by decide) rfl dX11_operand_4 ?_
  refine V_iload_n X 0 rfl dX11_operand_5 ?_
  have hnmC := nmC_M hhpk_3
  refine V_callS (wr := [((R 20), .inl (Y 2, 260, .inl a20)), ((R 21), .inl (Y 0, 260, .inl a21)), (m, .inr (10, mF R v0 v7 v8 v9 v15 v16 v17 v18 v19 v27 v31 v32 v33 v34 v38 v42 v44)), ((R 14), .inl (Y 2, 120, .inl a14))]) (st := []) X (c_X11_nameOf l D Y r_2) 1 gX11_operand_X11_nameOf rfl (by decide +kernel) ⟨rfl, rfl⟩ ⟨(by simp only [headSpec]; omega), (by simp only [headSpec]; omega)⟩ [] [0, 1, 2, 3] rfl rfl rfl rfl (by decide) rfl rfl (Nat.le_of_ble_eq_true rfl) ⟨Nat.le_of_ble_eq_true rfl, Nat.le_of_ble_eq_true rfl⟩ dX11_operand_6 (fun v_6 w_6 h_6 => ?_)
  obtain ⟨r_5, rfl, rfl, htr_6⟩ := h_6
  refine V_to (pc' := 9) (ls' := [(1, .int r_2), (0, .ref m)]) (st' := [.int r_5]) (ws' := [((R 20), .inl (Y 2, 260, .inl a20)), ((R 21), .inl (Y 0, 260, .inl a21)), (m, .inr (10, mF R v0 v7 v8 v9 v15 v16 v17 v18 v19 v27 v31 v32 v33 v34 v38 v42 v44)), ((R 14), .inl (Y 2, 120, .inl a14))]) ?_ rfl rfl rfl rfl
  refine V_if_lt X htr_6 34 dX11_operand_9 (by decide) (fun c_9 => ?_) (fun c_9 => ?_)
  · have hnn : nmC (c pos) < 0 := by omega
    refine V_iload_n X 0 rfl dX11_operand_34 ?_
    refine V_bipush (v := (33 : Int32)) X (by decide) dX11_operand_35 ?_
    refine V_icmp_eq X rfl (show (33 : Int32).toInt = 33 from by decide) 46 dX11_operand_37 (by decide) (fun c_37 => ?_) (fun c_37 => ?_)
    · have hqlt0 := MCHR_lt hCH (show c pos ≠ -1 by omega)
      have hqlt : pos < 120 := by omega
      refine V_aload_n X 1 rfl dX11_operand_46 ?_
      refine V_callV (C := RX11) (wr := [((R 20), .inl (Y 2, 260, .inl a20)), ((R 21), .inl (Y 0, 260, .inl a21)), ((R 14), .inl (Y 2, 120, .inl a14))]) (st := []) X (c_X11_opens l D Y m R v0 v7 v8 v9 v15 v16 v17 v18 v19 v27 v31 v32 v33 v34 v38 v42 v44 pos opn tv17 tv16 hqlt tv18 (by omega)) 0 gX11_operand_X11_opens rfl (by decide +kernel) ⟨rfl, rfl⟩ ⟨(by simp only [headSpec]; omega), (by simp only [headSpec]; omega)⟩ [2] [0, 1, 3] rfl rfl rfl rfl (by decide) (ci := 10) rfl rfl 0 rfl rfl rfl (Nat.le_of_ble_eq_true rfl) ⟨Nat.le_of_ble_eq_true rfl, Nat.le_of_ble_eq_true rfl⟩ dX11_operand_47 (fun v_47 w_47 h_47 => ?_)
      rcases h_47 with ⟨rfl, rfl, hh6_8⟩ | ⟨z16_o, z18_o, rfl, rfl, hh6_11, tz16_o, tz18_o⟩
      · exfalso; omega
      · refine V_to (pc' := 50) (ls' := [(1, .int r_2), (0, .ref m)]) (st' := [.int (1 : Int32)]) (ws' := [((R 20), .inl (Y 2, 260, .inl a20)), ((R 21), .inl (Y 0, 260, .inl a21)), ((R 14), .inl (Y 2, 120, .inl a14)), (m, .inr (10, mF R v0 v7 v8 v9 v15 z16_o v17 z18_o v19 v27 v31 v32 v33 v34 v38 v42 v44))]) ?_ rfl rfl rfl rfl
        refine V_if_ne X (show (1 : Int32).toInt = 1 from by decide) 54 dX11_operand_50 (by decide) (fun _ => ?_) (fun c_50 => absurd c_50 (by decide))
        refine V_aload_n X 1 rfl dX11_operand_54 ?_
        refine V_callV (C := RX11) (wr := []) (st := []) X (mhO l D Y m R v0 v7 v8 v9 v15 z16_o v17 z18_o v19 v27 v31 v32 v33 v34 v38 v42 v44 a14 a20 a21 L c (pos + 1) lo20 lo21 t0 (opn + 1) tv15 tz16_o hL (by omega) hCH tv17 hMC tz18_o (by omega) (by omega)) 0 gX11_operand_X11_operand rfl (by decide +kernel) ⟨rfl, rfl⟩ ⟨(by simp only [headSpec]; omega), (by simp only [headSpec]; omega)⟩ [3, 2, 0, 1] [] rfl rfl rfl rfl (by decide) (ci := 10) rfl rfl 0 rfl rfl rfl (Nat.le_of_ble_eq_true rfl) ⟨Nat.le_of_ble_eq_true rfl, Nat.le_of_ble_eq_true rfl⟩ dX11_operand_55 (fun v_55 w_55 h_55 => ?_)
        rcases h_55 with ⟨q_h, ts_h, z16_h, z19_h, b20_h, b21_h, rfl, rfl, tz16_h, hR_h, hqb_h, hMC2_h⟩ | ⟨q_h, l2_h, z16_h, z17_h, z18_h, z19_h, b20_h, b21_h, rfl, rfl, tz16_h, tz17_h, hR_h, hqL_h, tz19_h, hl2_h, hLO2_h⟩
        · refine V_to (pc' := 58) (ls' := [(1, .int r_2), (0, .ref m)]) (st' := []) (ws' := [(m, .inr (10, mF R v0 v7 v8 v9 v15 z16_h v17 z18_o z19_h v27 v31 v32 v33 v34 v38 v42 v44)), ((R 14), .inl (Y 2, 120, .inl a14)), ((R 20), .inl (Y 2, 260, .inl b20_h)), ((R 21), .inl (Y 0, 260, .inl b21_h))]) ?_ rfl rfl rfl rfl
          refine V_aload_n X 1 rfl dX11_operand_58 ?_
          refine V_dup X rfl dX11_operand_59 ?_
          refine V_get (C := RX11) (T := TX11) (N := 50) (ci := 10) (v := .int z18_o) X in_X11_operand_X11 0 rfl rfl 18 (by decide) (List.mem_of_getElem? (i := 2) rfl) rfl rfl dX11_operand_60 ?_
          refine V_iconst (v := (1 : Int32)) X (by decide) dX11_operand_63 ?_
          refine V_isubZ X tz18_o (show (1 : Int32).toInt = 1 from by decide) (by omega) (by omega) dX11_operand_64 (fun x_40 ex_40 tx_40 => ?_)
          have tx_40 : x_40.toInt = ((opn : Nat) : Int) := by omega
          refine V_put (C := RX11) (T := TX11) (N := 50) (ci := 10) (v := .int x_40) (ty := tyX11 18) (ws' := [(m, .inr (10, mF R v0 v7 v8 v9 v15 z16_h v17 x_40 z19_h v27 v31 v32 v33 v34 v38 v42 v44)), ((R 14), .inl (Y 2, 120, .inl a14)), ((R 20), .inl (Y 2, 260, .inl b20_h)), ((R 21), .inl (Y 0, 260, .inl b21_h))]) X in_X11_operand_X11 0 rfl rfl 18 (by decide) (List.mem_of_getElem? (i := 2) rfl) rfl tyX11 tyX11_ok nmX11 rfl (tyX11_ok 18 (by decide)) rfl rfl (Nat.le_of_ble_eq_true rfl) rfl dX11_operand_65 ?_
          refine V_to (ws' := [(m, .inr (10, mF R v0 v7 v8 v9 v15 z16_h v17 v18 z19_h v27 v31 v32 v33 v34 v38 v42 v44)), ((R 14), .inl (Y 2, 120, .inl a14)), ((R 20), .inl (Y 2, 260, .inl b20_h)), ((R 21), .inl (Y 0, 260, .inl b21_h))]) ?_ rfl rfl rfl (by rw [show x_40 = v18 from Int32.toInt_inj.mp (by omega)])
          refine V_aload_n X 1 rfl dX11_operand_68 ?_
          refine V_iload_n X 0 rfl dX11_operand_69 ?_
          refine V_bipush (v := (33 : Int32)) X (by decide) dX11_operand_70 ?_
          refine V_icmp_ne X rfl (show (33 : Int32).toInt = 33 from by decide) 79 dX11_operand_72 (by decide) (fun c_72 => ?_) (fun c_72 => ?_)
          · refine V_iconst (v := (4 : Int32)) X (by decide) dX11_operand_79 ?_
            refine V_iconst (v := (0 : Int32)) X (by decide) dX11_operand_80 ?_
            refine V_callV (C := RX11) (wr := [((R 14), .inl (Y 2, 120, .inl a14))]) (st := []) X (c_X11_addStep l D Y m R v0 v7 v8 v9 v15 z16_h v17 v18 z19_h v27 v31 v32 v33 v34 v38 v42 v44 b20_h b21_h lo20 lo21 (t0 ++ ts_h.map mkT) (4 : Int32) (0 : Int32) hMC2_h (by rw [List.length_append, List.length_map]; omega) (by decide)) 2 gX11_operand_X11_addStep rfl (by decide +kernel) ⟨rfl, rfl⟩ ⟨(by simp only [headSpec]; omega), (by simp only [headSpec]; omega)⟩ [0, 2, 3] [1] rfl rfl rfl rfl (by decide) (ci := 10) rfl rfl 0 rfl rfl rfl (Nat.le_of_ble_eq_true rfl) ⟨Nat.le_of_ble_eq_true rfl, Nat.le_of_ble_eq_true rfl⟩ dX11_operand_81 (fun v_81 w_81 h_81 => ?_)
            obtain ⟨z19_b, b20_b, b21_b, rfl, rfl, hMC2_b⟩ := h_81
            refine V_to (pc' := 84) (ls' := [(1, .int r_2), (0, .ref m)]) (st' := []) (ws' := [((R 14), .inl (Y 2, 120, .inl a14)), (m, .inr (10, mF R v0 v7 v8 v9 v15 z16_h v17 v18 z19_b v27 v31 v32 v33 v34 v38 v42 v44)), ((R 20), .inl (Y 2, 260, .inl b20_b)), ((R 21), .inl (Y 0, 260, .inl b21_b))]) ?_ rfl rfl rfl rfl
            have hc_0 : (0 : Int32).toInt = 0 := by decide
            have hc_4 : (4 : Int32).toInt = 4 := by decide
            refine V_goto X 154 (by decide) dX11_operand_84 ?_
            refine V_ws (ws' := [(m, .inr (10, mF R v0 v7 v8 v9 v15 z16_h v17 v18 z19_b v27 v31 v32 v33 v34 v38 v42 v44)), ((R 14), .inl (Y 2, 120, .inl a14)), ((R 20), .inl (Y 2, 260, .inl b20_b)), ((R 21), .inl (Y 0, 260, .inl b21_b))]) [1, 0, 2, 3] rfl rfl rfl ?_
            exact V_vret X hr dX11_operand_154 (Or.inl ⟨q_h, (ts_h ++ [((if c pos = 45 then 126 else 33), 0)]), z16_h, z19_b, b20_b, b21_b, rfl, rfl, (by omega), ((pOp_u (by omega)).trans (pNe_s hR_h)), ⟨by rw [List.length_append]; show pos + (ts_h.length + 1) ≤ q_h; omega, hqb_h.2⟩, (by have h9 := hMC2_b; rw [show (4 : Int32).toInt = 4 from by decide, show (0 : Int32).toInt = 0 from by decide] at h9; rw [if_pos (by omega), List.map_append, ← List.append_assoc]; exact h9)⟩)
          · refine V_iconst (v := (3 : Int32)) X (by decide) dX11_operand_75 ?_
            refine V_goto X 80 (by decide) dX11_operand_76 ?_
            refine V_iconst (v := (0 : Int32)) X (by decide) dX11_operand_80 ?_
            refine V_callV (C := RX11) (wr := [((R 14), .inl (Y 2, 120, .inl a14))]) (st := []) X (c_X11_addStep l D Y m R v0 v7 v8 v9 v15 z16_h v17 v18 z19_h v27 v31 v32 v33 v34 v38 v42 v44 b20_h b21_h lo20 lo21 (t0 ++ ts_h.map mkT) (3 : Int32) (0 : Int32) hMC2_h (by rw [List.length_append, List.length_map]; omega) (by decide)) 2 gX11_operand_X11_addStep rfl (by decide +kernel) ⟨rfl, rfl⟩ ⟨(by simp only [headSpec]; omega), (by simp only [headSpec]; omega)⟩ [0, 2, 3] [1] rfl rfl rfl rfl (by decide) (ci := 10) rfl rfl 0 rfl rfl rfl (Nat.le_of_ble_eq_true rfl) ⟨Nat.le_of_ble_eq_true rfl, Nat.le_of_ble_eq_true rfl⟩ dX11_operand_81 (fun v_81 w_81 h_81 => ?_)
            obtain ⟨z19_b, b20_b, b21_b, rfl, rfl, hMC2_b⟩ := h_81
            refine V_to (pc' := 84) (ls' := [(1, .int r_2), (0, .ref m)]) (st' := []) (ws' := [((R 14), .inl (Y 2, 120, .inl a14)), (m, .inr (10, mF R v0 v7 v8 v9 v15 z16_h v17 v18 z19_b v27 v31 v32 v33 v34 v38 v42 v44)), ((R 20), .inl (Y 2, 260, .inl b20_b)), ((R 21), .inl (Y 0, 260, .inl b21_b))]) ?_ rfl rfl rfl rfl
            have hc_0 : (0 : Int32).toInt = 0 := by decide
            have hc_3 : (3 : Int32).toInt = 3 := by decide
            refine V_goto X 154 (by decide) dX11_operand_84 ?_
            refine V_ws (ws' := [(m, .inr (10, mF R v0 v7 v8 v9 v15 z16_h v17 v18 z19_b v27 v31 v32 v33 v34 v38 v42 v44)), ((R 14), .inl (Y 2, 120, .inl a14)), ((R 20), .inl (Y 2, 260, .inl b20_b)), ((R 21), .inl (Y 0, 260, .inl b21_b))]) [1, 0, 2, 3] rfl rfl rfl ?_
            exact V_vret X hr dX11_operand_154 (Or.inl ⟨q_h, (ts_h ++ [((if c pos = 45 then 126 else 33), 0)]), z16_h, z19_b, b20_b, b21_b, rfl, rfl, (by omega), ((pOp_u (by omega)).trans (pNe_s hR_h)), ⟨by rw [List.length_append]; show pos + (ts_h.length + 1) ≤ q_h; omega, hqb_h.2⟩, (by have h9 := hMC2_b; rw [show (3 : Int32).toInt = 3 from by decide, show (0 : Int32).toInt = 0 from by decide] at h9; rw [if_neg (by omega), List.map_append, ← List.append_assoc]; exact h9)⟩)
        · refine V_to (pc' := 58) (ls' := [(1, .int r_2), (0, .ref m)]) (st' := []) (ws' := [(m, .inr (10, mF R v0 v7 v8 v9 v15 z16_h z17_h z18_h z19_h v27 v31 v32 v33 v34 v38 v42 v44)), ((R 14), .inl (Y 2, 120, .inl a14)), ((R 20), .inl (Y 2, 260, .inl b20_h)), ((R 21), .inl (Y 0, 260, .inl b21_h))]) ?_ rfl rfl rfl rfl
          refine V_aload_n X 1 rfl dX11_operand_58 ?_
          refine V_dup X rfl dX11_operand_59 ?_
          refine V_get (C := RX11) (T := TX11) (N := 50) (ci := 10) (v := .int z18_h) X in_X11_operand_X11 0 rfl rfl 18 (by decide) (List.mem_of_getElem? (i := 2) rfl) rfl rfl dX11_operand_60 ?_
          refine V_iconst (v := (1 : Int32)) X (by decide) dX11_operand_63 ?_
          refine V_isub X dX11_operand_64 (fun x_51 ex_51 => ?_)
          refine V_put (C := RX11) (T := TX11) (N := 50) (ci := 10) (v := .int x_51) (ty := tyX11 18) (ws' := [(m, .inr (10, mF R v0 v7 v8 v9 v15 z16_h z17_h x_51 z19_h v27 v31 v32 v33 v34 v38 v42 v44)), ((R 14), .inl (Y 2, 120, .inl a14)), ((R 20), .inl (Y 2, 260, .inl b20_h)), ((R 21), .inl (Y 0, 260, .inl b21_h))]) X in_X11_operand_X11 0 rfl rfl 18 (by decide) (List.mem_of_getElem? (i := 2) rfl) rfl tyX11 tyX11_ok nmX11 rfl (tyX11_ok 18 (by decide)) rfl rfl (Nat.le_of_ble_eq_true rfl) rfl dX11_operand_65 ?_
          refine V_aload_n X 1 rfl dX11_operand_68 ?_
          refine V_iload_n X 0 rfl dX11_operand_69 ?_
          refine V_bipush (v := (33 : Int32)) X (by decide) dX11_operand_70 ?_
          refine V_icmp_ne X rfl (show (33 : Int32).toInt = 33 from by decide) 79 dX11_operand_72 (by decide) (fun c_72 => ?_) (fun c_72 => ?_)
          · refine V_iconst (v := (4 : Int32)) X (by decide) dX11_operand_79 ?_
            refine V_iconst (v := (0 : Int32)) X (by decide) dX11_operand_80 ?_
            refine V_callV (C := RX11) (wr := [((R 14), .inl (Y 2, 120, .inl a14))]) (st := []) X (c_X11_addStepD l D Y m R v0 v7 v8 v9 v15 z16_h z17_h x_51 z19_h v27 v31 v32 v33 v34 v38 v42 v44 b20_h b21_h lo20 lo21 l2_h (4 : Int32) (0 : Int32) tz19_h hLO2_h (by omega)) 2 gX11_operand_X11_addStep rfl (by decide +kernel) ⟨rfl, rfl⟩ ⟨(by simp only [headSpec]; omega), (by simp only [headSpec]; omega)⟩ [0, 2, 3] [1] rfl rfl rfl rfl (by decide) (ci := 10) rfl rfl 0 rfl rfl rfl (Nat.le_of_ble_eq_true rfl) ⟨Nat.le_of_ble_eq_true rfl, Nat.le_of_ble_eq_true rfl⟩ dX11_operand_81 (fun v_81 w_81 h_81 => ?_)
            obtain ⟨z19_b, b20_b, b21_b, rfl, rfl, tz19_b, hLO2_b⟩ := h_81
            refine V_to (pc' := 84) (ls' := [(1, .int r_2), (0, .ref m)]) (st' := []) (ws' := [((R 14), .inl (Y 2, 120, .inl a14)), (m, .inr (10, mF R v0 v7 v8 v9 v15 z16_h z17_h x_51 z19_b v27 v31 v32 v33 v34 v38 v42 v44)), ((R 20), .inl (Y 2, 260, .inl b20_b)), ((R 21), .inl (Y 0, 260, .inl b21_b))]) ?_ rfl rfl rfl rfl
            refine V_goto X 154 (by decide) dX11_operand_84 ?_
            refine V_ws (ws' := [(m, .inr (10, mF R v0 v7 v8 v9 v15 z16_h z17_h x_51 z19_b v27 v31 v32 v33 v34 v38 v42 v44)), ((R 14), .inl (Y 2, 120, .inl a14)), ((R 20), .inl (Y 2, 260, .inl b20_b)), ((R 21), .inl (Y 0, 260, .inl b21_b))]) [1, 0, 2, 3] rfl rfl rfl ?_
            exact V_vret X hr dX11_operand_154 (Or.inr (⟨q_h, (l2_h + 1), z16_h, z17_h, x_51, z19_b, b20_b, b21_b, rfl, rfl, (by omega), (by omega), ((pOp_u (by omega)).trans (pBd_n hR_h)), (by omega), tz19_b, (by omega), hLO2_b⟩))
          · refine V_iconst (v := (3 : Int32)) X (by decide) dX11_operand_75 ?_
            refine V_goto X 80 (by decide) dX11_operand_76 ?_
            refine V_iconst (v := (0 : Int32)) X (by decide) dX11_operand_80 ?_
            refine V_callV (C := RX11) (wr := [((R 14), .inl (Y 2, 120, .inl a14))]) (st := []) X (c_X11_addStepD l D Y m R v0 v7 v8 v9 v15 z16_h z17_h x_51 z19_h v27 v31 v32 v33 v34 v38 v42 v44 b20_h b21_h lo20 lo21 l2_h (3 : Int32) (0 : Int32) tz19_h hLO2_h (by omega)) 2 gX11_operand_X11_addStep rfl (by decide +kernel) ⟨rfl, rfl⟩ ⟨(by simp only [headSpec]; omega), (by simp only [headSpec]; omega)⟩ [0, 2, 3] [1] rfl rfl rfl rfl (by decide) (ci := 10) rfl rfl 0 rfl rfl rfl (Nat.le_of_ble_eq_true rfl) ⟨Nat.le_of_ble_eq_true rfl, Nat.le_of_ble_eq_true rfl⟩ dX11_operand_81 (fun v_81 w_81 h_81 => ?_)
            obtain ⟨z19_b, b20_b, b21_b, rfl, rfl, tz19_b, hLO2_b⟩ := h_81
            refine V_to (pc' := 84) (ls' := [(1, .int r_2), (0, .ref m)]) (st' := []) (ws' := [((R 14), .inl (Y 2, 120, .inl a14)), (m, .inr (10, mF R v0 v7 v8 v9 v15 z16_h z17_h x_51 z19_b v27 v31 v32 v33 v34 v38 v42 v44)), ((R 20), .inl (Y 2, 260, .inl b20_b)), ((R 21), .inl (Y 0, 260, .inl b21_b))]) ?_ rfl rfl rfl rfl
            refine V_goto X 154 (by decide) dX11_operand_84 ?_
            refine V_ws (ws' := [(m, .inr (10, mF R v0 v7 v8 v9 v15 z16_h z17_h x_51 z19_b v27 v31 v32 v33 v34 v38 v42 v44)), ((R 14), .inl (Y 2, 120, .inl a14)), ((R 20), .inl (Y 2, 260, .inl b20_b)), ((R 21), .inl (Y 0, 260, .inl b21_b))]) [1, 0, 2, 3] rfl rfl rfl ?_
            exact V_vret X hr dX11_operand_154 (Or.inr (⟨q_h, (l2_h + 1), z16_h, z17_h, x_51, z19_b, b20_b, b21_b, rfl, rfl, (by omega), (by omega), ((pOp_u (by omega)).trans (pBd_n hR_h)), (by omega), tz19_b, (by omega), hLO2_b⟩))
    · refine V_iload_n X 0 rfl dX11_operand_40 ?_
      refine V_bipush (v := (45 : Int32)) X (by decide) dX11_operand_41 ?_
      refine V_icmp_ne X rfl (show (45 : Int32).toInt = 45 from by decide) 87 dX11_operand_43 (by decide) (fun c_43 => ?_) (fun c_43 => ?_)
      · refine V_iload_n X 0 rfl dX11_operand_87 ?_
        refine V_bipush (v := (40 : Int32)) X (by decide) dX11_operand_88 ?_
        refine V_icmp_ne X rfl (show (40 : Int32).toInt = 40 from by decide) 150 dX11_operand_90 (by decide) (fun c_90 => ?_) (fun c_90 => ?_)
        · refine V_aload_n X 1 rfl dX11_operand_150 ?_
          refine V_callV (C := RX11) (wr := []) (st := []) X (c_X11_figure l D Y m R v0 v7 v8 v9 v15 v16 v17 v18 v19 v27 v31 v32 v33 v34 v38 v42 v44 a14 a20 a21 L c pos lo20 lo21 t0 opn tv15 tv16 hL hpL hCH tv17 hMC tv18 htp (by omega)) 0 gX11_operand_X11_figure rfl (by decide +kernel) ⟨rfl, rfl⟩ ⟨(by simp only [headSpec]; omega), (by simp only [headSpec]; omega)⟩ [2, 3, 0, 1] [] rfl rfl rfl rfl (by decide) (ci := 10) rfl rfl 0 rfl rfl rfl (Nat.le_of_ble_eq_true rfl) ⟨Nat.le_of_ble_eq_true rfl, Nat.le_of_ble_eq_true rfl⟩ dX11_operand_151 (fun v_151 w_151 h_151 => ?_)
          rcases h_151 with ⟨q_n, ts_n, z16_n, z19_n, b20_n, b21_n, rfl, rfl, tz16_n, hR_n, hqb_n, hMC2_n⟩ | ⟨q_n, l2_n, z16_n, z17_n, z18_n, z19_n, b20_n, b21_n, rfl, rfl, tz16_n, tz17_n, hR_n, hqL_n, tz19_n, hl2_n, hLO2_n⟩
          · refine V_to (pc' := 154) (ls' := [(1, .int r_2), (0, .ref m)]) (st' := []) (ws' := [(m, .inr (10, mF R v0 v7 v8 v9 v15 z16_n v17 v18 z19_n v27 v31 v32 v33 v34 v38 v42 v44)), ((R 14), .inl (Y 2, 120, .inl a14)), ((R 20), .inl (Y 2, 260, .inl b20_n)), ((R 21), .inl (Y 0, 260, .inl b21_n))]) ?_ rfl rfl rfl rfl
            exact V_vret X hr dX11_operand_154 (Or.inl ⟨q_n, ts_n, z16_n, z19_n, b20_n, b21_n, rfl, rfl, (by omega), ((pOp_f (by omega) (by omega)).trans hR_n), hqb_n, hMC2_n⟩)
          · refine V_to (pc' := 154) (ls' := [(1, .int r_2), (0, .ref m)]) (st' := []) (ws' := [(m, .inr (10, mF R v0 v7 v8 v9 v15 z16_n z17_n z18_n z19_n v27 v31 v32 v33 v34 v38 v42 v44)), ((R 14), .inl (Y 2, 120, .inl a14)), ((R 20), .inl (Y 2, 260, .inl b20_n)), ((R 21), .inl (Y 0, 260, .inl b21_n))]) ?_ rfl rfl rfl rfl
            exact V_vret X hr dX11_operand_154 (Or.inr (⟨q_n, l2_n, z16_n, z17_n, z18_n, z19_n, b20_n, b21_n, rfl, rfl, (by omega), (by omega), ((pOp_f (by omega) (by omega)).trans hR_n), (by omega), tz19_n, hl2_n, hLO2_n⟩))
        · have hqlt0 := MCHR_lt hCH (show c pos ≠ -1 by omega)
          have hqlt : pos < 120 := by omega
          refine V_aload_n X 1 rfl dX11_operand_93 ?_
          refine V_callV (C := RX11) (wr := [((R 20), .inl (Y 2, 260, .inl a20)), ((R 21), .inl (Y 0, 260, .inl a21)), ((R 14), .inl (Y 2, 120, .inl a14))]) (st := []) X (c_X11_opens l D Y m R v0 v7 v8 v9 v15 v16 v17 v18 v19 v27 v31 v32 v33 v34 v38 v42 v44 pos opn tv17 tv16 hqlt tv18 (by omega)) 0 gX11_operand_X11_opens rfl (by decide +kernel) ⟨rfl, rfl⟩ ⟨(by simp only [headSpec]; omega), (by simp only [headSpec]; omega)⟩ [2] [0, 1, 3] rfl rfl rfl rfl (by decide) (ci := 10) rfl rfl 0 rfl rfl rfl (Nat.le_of_ble_eq_true rfl) ⟨Nat.le_of_ble_eq_true rfl, Nat.le_of_ble_eq_true rfl⟩ dX11_operand_94 (fun v_94 w_94 h_94 => ?_)
          rcases h_94 with ⟨rfl, rfl, hh6_91⟩ | ⟨z16_o, z18_o, rfl, rfl, hh6_94, tz16_o, tz18_o⟩
          · exfalso; omega
          · refine V_to (pc' := 97) (ls' := [(1, .int r_2), (0, .ref m)]) (st' := [.int (1 : Int32)]) (ws' := [((R 20), .inl (Y 2, 260, .inl a20)), ((R 21), .inl (Y 0, 260, .inl a21)), ((R 14), .inl (Y 2, 120, .inl a14)), (m, .inr (10, mF R v0 v7 v8 v9 v15 z16_o v17 z18_o v19 v27 v31 v32 v33 v34 v38 v42 v44))]) ?_ rfl rfl rfl rfl
            refine V_if_ne X (show (1 : Int32).toInt = 1 from by decide) 101 dX11_operand_97 (by decide) (fun _ => ?_) (fun c_97 => absurd c_97 (by decide))
            refine V_aload_n X 1 rfl dX11_operand_101 ?_
            refine V_callV (C := RX11) (wr := []) (st := []) X (c_X11_either l D Y m R v0 v7 v8 v9 v15 z16_o v17 z18_o v19 v27 v31 v32 v33 v34 v38 v42 v44 a14 a20 a21 L c (pos + 1) lo20 lo21 t0 (opn + 1) k tv15 tz16_o hL (by omega) hCH tv17 hMC tz18_o (by omega) (by omega) mhO) 0 gX11_operand_X11_either rfl (by decide +kernel) ⟨rfl, rfl⟩ ⟨(by simp only [headSpec]; omega), (by simp only [headSpec]; omega)⟩ [3, 2, 0, 1] [] rfl rfl rfl rfl (by decide) (ci := 10) rfl rfl 0 rfl rfl rfl (Nat.le_of_ble_eq_true rfl) ⟨Nat.le_of_ble_eq_true rfl, Nat.le_of_ble_eq_true rfl⟩ dX11_operand_102 (fun v_102 w_102 h_102 => ?_)
            rcases h_102 with ⟨q_g, ts_g, z16_g, z19_g, b20_g, b21_g, rfl, rfl, tz16_g, hR_g, hqb_g, hMC2_g⟩ | ⟨q_g, l2_g, z16_g, z17_g, z18_g, z19_g, b20_g, b21_g, rfl, rfl, tz16_g, tz17_g, hR_g, hqL_g, tz19_g, hl2_g, hLO2_g⟩
            · refine V_to (pc' := 105) (ls' := [(1, .int r_2), (0, .ref m)]) (st' := []) (ws' := [(m, .inr (10, mF R v0 v7 v8 v9 v15 z16_g v17 z18_o z19_g v27 v31 v32 v33 v34 v38 v42 v44)), ((R 14), .inl (Y 2, 120, .inl a14)), ((R 20), .inl (Y 2, 260, .inl b20_g)), ((R 21), .inl (Y 0, 260, .inl b21_g))]) ?_ rfl rfl rfl rfl
              refine V_aload_n X 1 rfl dX11_operand_105 ?_
              refine V_get (C := RX11) (T := TX11) (N := 50) (ci := 10) (v := .int v17) X in_X11_operand_X11 0 rfl rfl 17 (by decide) (List.mem_of_getElem? (i := 3) rfl) rfl rfl dX11_operand_106 ?_
              refine V_if_lt X tv17 113 dX11_operand_109 (by decide) (fun _ => ?_) (fun c_109 => absurd c_109 (by decide))
              refine V_aload_n X 1 rfl dX11_operand_113 ?_
              refine V_callV (C := RX11) (wr := [((R 20), .inl (Y 2, 260, .inl b20_g)), ((R 21), .inl (Y 0, 260, .inl b21_g))]) (st := []) X (c_X11_look l D Y m R v0 v7 v8 v9 v15 z16_g v17 z18_o z19_g v27 v31 v32 v33 v34 v38 v42 v44 a14 L c q_g tv15 tz16_g hL (by omega) hCH) 0 gX11_operand_X11_look rfl (by decide +kernel) ⟨rfl, rfl⟩ ⟨(by simp only [headSpec]; omega), (by simp only [headSpec]; omega)⟩ [0, 1] [2, 3] rfl rfl rfl rfl (by decide) (ci := 10) rfl rfl 0 rfl rfl rfl (Nat.le_of_ble_eq_true rfl) ⟨Nat.le_of_ble_eq_true rfl, Nat.le_of_ble_eq_true rfl⟩ dX11_operand_114 (fun v_114 w_114 h_114 => ?_)
              obtain ⟨r_124, rfl, rfl, hhpk_125⟩ := h_114
              refine V_to (pc' := 117) (ls' := [(1, .int r_2), (0, .ref m)]) (st' := [.int r_124]) (ws' := [((R 20), .inl (Y 2, 260, .inl b20_g)), ((R 21), .inl (Y 0, 260, .inl b21_g)), (m, .inr (10, mF R v0 v7 v8 v9 v15 z16_g v17 z18_o z19_g v27 v31 v32 v33 v34 v38 v42 v44)), ((R 14), .inl (Y 2, 120, .inl a14))]) ?_ rfl rfl rfl rfl
              refine V_bipush (v := (41 : Int32)) X (by decide) dX11_operand_117 ?_
              refine V_icmp_eq X rfl (show (41 : Int32).toInt = 41 from by decide) 127 dX11_operand_119 (by decide) (fun c_119 => ?_) (fun c_119 => ?_)
              · have h41 : c q_g = 41 := by omega
                have hqlt2 := MCHR_lt hCH (show c q_g ≠ -1 by omega)
                refine V_aload_n X 1 rfl dX11_operand_127 ?_
                refine V_dup X rfl dX11_operand_128 ?_
                refine V_get (C := RX11) (T := TX11) (N := 50) (ci := 10) (v := .int z16_g) X in_X11_operand_X11 2 rfl rfl 16 (by decide) (List.mem_of_getElem? (i := 1) rfl) rfl rfl dX11_operand_129 ?_
                refine V_iconst (v := (1 : Int32)) X (by decide) dX11_operand_132 ?_
                refine V_iaddZ X tz16_g (show (1 : Int32).toInt = 1 from by decide) (by omega) (by omega) dX11_operand_133 (fun x_126 ex_126 tx_126 => ?_)
                have tx_126 : x_126.toInt = (((q_g + 1) : Nat) : Int) := by omega
                refine V_put (C := RX11) (T := TX11) (N := 50) (ci := 10) (v := .int x_126) (ty := tyX11 16) (ws' := [((R 20), .inl (Y 2, 260, .inl b20_g)), ((R 21), .inl (Y 0, 260, .inl b21_g)), (m, .inr (10, mF R v0 v7 v8 v9 v15 x_126 v17 z18_o z19_g v27 v31 v32 v33 v34 v38 v42 v44)), ((R 14), .inl (Y 2, 120, .inl a14))]) X in_X11_operand_X11 2 rfl rfl 16 (by decide) (List.mem_of_getElem? (i := 1) rfl) rfl tyX11 tyX11_ok nmX11 rfl (tyX11_ok 16 (by decide)) rfl rfl (Nat.le_of_ble_eq_true rfl) rfl dX11_operand_134 ?_
                refine V_aload_n X 1 rfl dX11_operand_137 ?_
                refine V_dup X rfl dX11_operand_138 ?_
                refine V_get (C := RX11) (T := TX11) (N := 50) (ci := 10) (v := .int z18_o) X in_X11_operand_X11 2 rfl rfl 18 (by decide) (List.mem_of_getElem? (i := 2) rfl) rfl rfl dX11_operand_139 ?_
                refine V_iconst (v := (1 : Int32)) X (by decide) dX11_operand_142 ?_
                refine V_isubZ X tz18_o (show (1 : Int32).toInt = 1 from by decide) (by omega) (by omega) dX11_operand_143 (fun x_127 ex_127 tx_127 => ?_)
                refine V_put (C := RX11) (T := TX11) (N := 50) (ci := 10) (v := .int x_127) (ty := tyX11 18) (ws' := [((R 20), .inl (Y 2, 260, .inl b20_g)), ((R 21), .inl (Y 0, 260, .inl b21_g)), (m, .inr (10, mF R v0 v7 v8 v9 v15 x_126 v17 x_127 z19_g v27 v31 v32 v33 v34 v38 v42 v44)), ((R 14), .inl (Y 2, 120, .inl a14))]) X in_X11_operand_X11 2 rfl rfl 18 (by decide) (List.mem_of_getElem? (i := 2) rfl) rfl tyX11 tyX11_ok nmX11 rfl (tyX11_ok 18 (by decide)) rfl rfl (Nat.le_of_ble_eq_true rfl) rfl dX11_operand_144 ?_
                refine V_to (ws' := [((R 20), .inl (Y 2, 260, .inl b20_g)), ((R 21), .inl (Y 0, 260, .inl b21_g)), (m, .inr (10, mF R v0 v7 v8 v9 v15 x_126 v17 v18 z19_g v27 v31 v32 v33 v34 v38 v42 v44)), ((R 14), .inl (Y 2, 120, .inl a14))]) ?_ rfl rfl rfl (by rw [show x_127 = v18 from Int32.toInt_inj.mp (by omega)])
                refine V_goto X 154 (by decide) dX11_operand_147 ?_
                refine V_ws (ws' := [(m, .inr (10, mF R v0 v7 v8 v9 v15 x_126 v17 v18 z19_g v27 v31 v32 v33 v34 v38 v42 v44)), ((R 14), .inl (Y 2, 120, .inl a14)), ((R 20), .inl (Y 2, 260, .inl b20_g)), ((R 21), .inl (Y 0, 260, .inl b21_g))]) [2, 3, 0, 1] rfl rfl rfl ?_
                exact V_vret X hr dX11_operand_154 (Or.inl ⟨(q_g + 1), ts_g, x_126, z19_g, b20_g, b21_g, rfl, rfl, (by omega), ((pOp_p (by omega)).trans (pPa_s hR_g h41)), ⟨by omega, by omega⟩, hMC2_g⟩)
              · refine V_aload_n X 1 rfl dX11_operand_122 ?_
                refine V_callV (C := RX11) (wr := [((R 20), .inl (Y 2, 260, .inl b20_g)), ((R 21), .inl (Y 0, 260, .inl b21_g)), ((R 14), .inl (Y 2, 120, .inl a14))]) (st := []) X (c_X11_faulty l D Y m R v0 v7 v8 v9 v15 z16_g v17 z18_o z19_g v27 v31 v32 v33 v34 v38 v42 v44 tv17) 0 gX11_operand_X11_faulty rfl (by decide +kernel) ⟨rfl, rfl⟩ ⟨(by simp only [headSpec]; omega), (by simp only [headSpec]; omega)⟩ [2] [0, 1, 3] rfl rfl rfl rfl (by decide) (ci := 10) rfl rfl 0 rfl rfl rfl (Nat.le_of_ble_eq_true rfl) ⟨Nat.le_of_ble_eq_true rfl, Nat.le_of_ble_eq_true rfl⟩ dX11_operand_123 (fun v_123 w_123 h_123 => ?_)
                obtain ⟨rfl, rfl⟩ := h_123
                refine V_to (pc' := 126) (ls' := [(1, .int r_2), (0, .ref m)]) (st' := []) (ws' := [((R 20), .inl (Y 2, 260, .inl b20_g)), ((R 21), .inl (Y 0, 260, .inl b21_g)), ((R 14), .inl (Y 2, 120, .inl a14)), (m, .inr (10, mF R v0 v7 v8 v9 v15 z16_g z16_g z18_o z19_g v27 v31 v32 v33 v34 v38 v42 v44))]) ?_ rfl rfl rfl rfl
                refine V_ws (ws' := [(m, .inr (10, mF R v0 v7 v8 v9 v15 z16_g z16_g z18_o z19_g v27 v31 v32 v33 v34 v38 v42 v44)), ((R 14), .inl (Y 2, 120, .inl a14)), ((R 20), .inl (Y 2, 260, .inl b20_g)), ((R 21), .inl (Y 0, 260, .inl b21_g))]) [3, 2, 0, 1] rfl rfl rfl ?_
                exact V_vret X hr dX11_operand_126 (Or.inr (⟨q_g, ((t0 ++ ts_g.map mkT).length), z16_g, z16_g, z18_o, z19_g, b20_g, b21_g, rfl, rfl, (by omega), (by omega), ((pOp_p (by omega)).trans (pPa_x hR_g (by omega))), (by omega), hMC2_g.1, (by rw [List.length_append, List.length_map]; omega), hMC2_g.2.1⟩))
            · refine V_to (pc' := 105) (ls' := [(1, .int r_2), (0, .ref m)]) (st' := []) (ws' := [(m, .inr (10, mF R v0 v7 v8 v9 v15 z16_g z17_g z18_g z19_g v27 v31 v32 v33 v34 v38 v42 v44)), ((R 14), .inl (Y 2, 120, .inl a14)), ((R 20), .inl (Y 2, 260, .inl b20_g)), ((R 21), .inl (Y 0, 260, .inl b21_g))]) ?_ rfl rfl rfl rfl
              refine V_aload_n X 1 rfl dX11_operand_105 ?_
              refine V_get (C := RX11) (T := TX11) (N := 50) (ci := 10) (v := .int z17_g) X in_X11_operand_X11 0 rfl rfl 17 (by decide) (List.mem_of_getElem? (i := 3) rfl) rfl rfl dX11_operand_106 ?_
              refine V_if_lt X tz17_g 113 dX11_operand_109 (by decide) (fun c_109 => False.elim (by omega)) (fun c_109 => ?_)
              exact V_vret X hr dX11_operand_112 (Or.inr (⟨q_g, l2_g, z16_g, z17_g, z18_g, z19_g, b20_g, b21_g, rfl, rfl, (by omega), (by omega), ((pOp_p (by omega)).trans (pBd_n hR_g)), (by omega), tz19_g, (by omega), hLO2_g⟩))
      · have hqlt0 := MCHR_lt hCH (show c pos ≠ -1 by omega)
        have hqlt : pos < 120 := by omega
        refine V_aload_n X 1 rfl dX11_operand_46 ?_
        refine V_callV (C := RX11) (wr := [((R 20), .inl (Y 2, 260, .inl a20)), ((R 21), .inl (Y 0, 260, .inl a21)), ((R 14), .inl (Y 2, 120, .inl a14))]) (st := []) X (c_X11_opens l D Y m R v0 v7 v8 v9 v15 v16 v17 v18 v19 v27 v31 v32 v33 v34 v38 v42 v44 pos opn tv17 tv16 hqlt tv18 (by omega)) 0 gX11_operand_X11_opens rfl (by decide +kernel) ⟨rfl, rfl⟩ ⟨(by simp only [headSpec]; omega), (by simp only [headSpec]; omega)⟩ [2] [0, 1, 3] rfl rfl rfl rfl (by decide) (ci := 10) rfl rfl 0 rfl rfl rfl (Nat.le_of_ble_eq_true rfl) ⟨Nat.le_of_ble_eq_true rfl, Nat.le_of_ble_eq_true rfl⟩ dX11_operand_47 (fun v_47 w_47 h_47 => ?_)
        rcases h_47 with ⟨rfl, rfl, hh6_130⟩ | ⟨z16_o, z18_o, rfl, rfl, hh6_133, tz16_o, tz18_o⟩
        · exfalso; omega
        · refine V_to (pc' := 50) (ls' := [(1, .int r_2), (0, .ref m)]) (st' := [.int (1 : Int32)]) (ws' := [((R 20), .inl (Y 2, 260, .inl a20)), ((R 21), .inl (Y 0, 260, .inl a21)), ((R 14), .inl (Y 2, 120, .inl a14)), (m, .inr (10, mF R v0 v7 v8 v9 v15 z16_o v17 z18_o v19 v27 v31 v32 v33 v34 v38 v42 v44))]) ?_ rfl rfl rfl rfl
          refine V_if_ne X (show (1 : Int32).toInt = 1 from by decide) 54 dX11_operand_50 (by decide) (fun _ => ?_) (fun c_50 => absurd c_50 (by decide))
          refine V_aload_n X 1 rfl dX11_operand_54 ?_
          refine V_callV (C := RX11) (wr := []) (st := []) X (mhO l D Y m R v0 v7 v8 v9 v15 z16_o v17 z18_o v19 v27 v31 v32 v33 v34 v38 v42 v44 a14 a20 a21 L c (pos + 1) lo20 lo21 t0 (opn + 1) tv15 tz16_o hL (by omega) hCH tv17 hMC tz18_o (by omega) (by omega)) 0 gX11_operand_X11_operand rfl (by decide +kernel) ⟨rfl, rfl⟩ ⟨(by simp only [headSpec]; omega), (by simp only [headSpec]; omega)⟩ [3, 2, 0, 1] [] rfl rfl rfl rfl (by decide) (ci := 10) rfl rfl 0 rfl rfl rfl (Nat.le_of_ble_eq_true rfl) ⟨Nat.le_of_ble_eq_true rfl, Nat.le_of_ble_eq_true rfl⟩ dX11_operand_55 (fun v_55 w_55 h_55 => ?_)
          rcases h_55 with ⟨q_h, ts_h, z16_h, z19_h, b20_h, b21_h, rfl, rfl, tz16_h, hR_h, hqb_h, hMC2_h⟩ | ⟨q_h, l2_h, z16_h, z17_h, z18_h, z19_h, b20_h, b21_h, rfl, rfl, tz16_h, tz17_h, hR_h, hqL_h, tz19_h, hl2_h, hLO2_h⟩
          · refine V_to (pc' := 58) (ls' := [(1, .int r_2), (0, .ref m)]) (st' := []) (ws' := [(m, .inr (10, mF R v0 v7 v8 v9 v15 z16_h v17 z18_o z19_h v27 v31 v32 v33 v34 v38 v42 v44)), ((R 14), .inl (Y 2, 120, .inl a14)), ((R 20), .inl (Y 2, 260, .inl b20_h)), ((R 21), .inl (Y 0, 260, .inl b21_h))]) ?_ rfl rfl rfl rfl
            refine V_aload_n X 1 rfl dX11_operand_58 ?_
            refine V_dup X rfl dX11_operand_59 ?_
            refine V_get (C := RX11) (T := TX11) (N := 50) (ci := 10) (v := .int z18_o) X in_X11_operand_X11 0 rfl rfl 18 (by decide) (List.mem_of_getElem? (i := 2) rfl) rfl rfl dX11_operand_60 ?_
            refine V_iconst (v := (1 : Int32)) X (by decide) dX11_operand_63 ?_
            refine V_isubZ X tz18_o (show (1 : Int32).toInt = 1 from by decide) (by omega) (by omega) dX11_operand_64 (fun x_162 ex_162 tx_162 => ?_)
            have tx_162 : x_162.toInt = ((opn : Nat) : Int) := by omega
            refine V_put (C := RX11) (T := TX11) (N := 50) (ci := 10) (v := .int x_162) (ty := tyX11 18) (ws' := [(m, .inr (10, mF R v0 v7 v8 v9 v15 z16_h v17 x_162 z19_h v27 v31 v32 v33 v34 v38 v42 v44)), ((R 14), .inl (Y 2, 120, .inl a14)), ((R 20), .inl (Y 2, 260, .inl b20_h)), ((R 21), .inl (Y 0, 260, .inl b21_h))]) X in_X11_operand_X11 0 rfl rfl 18 (by decide) (List.mem_of_getElem? (i := 2) rfl) rfl tyX11 tyX11_ok nmX11 rfl (tyX11_ok 18 (by decide)) rfl rfl (Nat.le_of_ble_eq_true rfl) rfl dX11_operand_65 ?_
            refine V_to (ws' := [(m, .inr (10, mF R v0 v7 v8 v9 v15 z16_h v17 v18 z19_h v27 v31 v32 v33 v34 v38 v42 v44)), ((R 14), .inl (Y 2, 120, .inl a14)), ((R 20), .inl (Y 2, 260, .inl b20_h)), ((R 21), .inl (Y 0, 260, .inl b21_h))]) ?_ rfl rfl rfl (by rw [show x_162 = v18 from Int32.toInt_inj.mp (by omega)])
            refine V_aload_n X 1 rfl dX11_operand_68 ?_
            refine V_iload_n X 0 rfl dX11_operand_69 ?_
            refine V_bipush (v := (33 : Int32)) X (by decide) dX11_operand_70 ?_
            refine V_icmp_ne X rfl (show (33 : Int32).toInt = 33 from by decide) 79 dX11_operand_72 (by decide) (fun c_72 => ?_) (fun c_72 => ?_)
            · refine V_iconst (v := (4 : Int32)) X (by decide) dX11_operand_79 ?_
              refine V_iconst (v := (0 : Int32)) X (by decide) dX11_operand_80 ?_
              refine V_callV (C := RX11) (wr := [((R 14), .inl (Y 2, 120, .inl a14))]) (st := []) X (c_X11_addStep l D Y m R v0 v7 v8 v9 v15 z16_h v17 v18 z19_h v27 v31 v32 v33 v34 v38 v42 v44 b20_h b21_h lo20 lo21 (t0 ++ ts_h.map mkT) (4 : Int32) (0 : Int32) hMC2_h (by rw [List.length_append, List.length_map]; omega) (by decide)) 2 gX11_operand_X11_addStep rfl (by decide +kernel) ⟨rfl, rfl⟩ ⟨(by simp only [headSpec]; omega), (by simp only [headSpec]; omega)⟩ [0, 2, 3] [1] rfl rfl rfl rfl (by decide) (ci := 10) rfl rfl 0 rfl rfl rfl (Nat.le_of_ble_eq_true rfl) ⟨Nat.le_of_ble_eq_true rfl, Nat.le_of_ble_eq_true rfl⟩ dX11_operand_81 (fun v_81 w_81 h_81 => ?_)
              obtain ⟨z19_b, b20_b, b21_b, rfl, rfl, hMC2_b⟩ := h_81
              refine V_to (pc' := 84) (ls' := [(1, .int r_2), (0, .ref m)]) (st' := []) (ws' := [((R 14), .inl (Y 2, 120, .inl a14)), (m, .inr (10, mF R v0 v7 v8 v9 v15 z16_h v17 v18 z19_b v27 v31 v32 v33 v34 v38 v42 v44)), ((R 20), .inl (Y 2, 260, .inl b20_b)), ((R 21), .inl (Y 0, 260, .inl b21_b))]) ?_ rfl rfl rfl rfl
              have hc_0 : (0 : Int32).toInt = 0 := by decide
              have hc_4 : (4 : Int32).toInt = 4 := by decide
              refine V_goto X 154 (by decide) dX11_operand_84 ?_
              refine V_ws (ws' := [(m, .inr (10, mF R v0 v7 v8 v9 v15 z16_h v17 v18 z19_b v27 v31 v32 v33 v34 v38 v42 v44)), ((R 14), .inl (Y 2, 120, .inl a14)), ((R 20), .inl (Y 2, 260, .inl b20_b)), ((R 21), .inl (Y 0, 260, .inl b21_b))]) [1, 0, 2, 3] rfl rfl rfl ?_
              exact V_vret X hr dX11_operand_154 (Or.inl ⟨q_h, (ts_h ++ [((if c pos = 45 then 126 else 33), 0)]), z16_h, z19_b, b20_b, b21_b, rfl, rfl, (by omega), ((pOp_u (by omega)).trans (pNe_s hR_h)), ⟨by rw [List.length_append]; show pos + (ts_h.length + 1) ≤ q_h; omega, hqb_h.2⟩, (by have h9 := hMC2_b; rw [show (4 : Int32).toInt = 4 from by decide, show (0 : Int32).toInt = 0 from by decide] at h9; rw [if_pos (by omega), List.map_append, ← List.append_assoc]; exact h9)⟩)
            · refine V_iconst (v := (3 : Int32)) X (by decide) dX11_operand_75 ?_
              refine V_goto X 80 (by decide) dX11_operand_76 ?_
              refine V_iconst (v := (0 : Int32)) X (by decide) dX11_operand_80 ?_
              refine V_callV (C := RX11) (wr := [((R 14), .inl (Y 2, 120, .inl a14))]) (st := []) X (c_X11_addStep l D Y m R v0 v7 v8 v9 v15 z16_h v17 v18 z19_h v27 v31 v32 v33 v34 v38 v42 v44 b20_h b21_h lo20 lo21 (t0 ++ ts_h.map mkT) (3 : Int32) (0 : Int32) hMC2_h (by rw [List.length_append, List.length_map]; omega) (by decide)) 2 gX11_operand_X11_addStep rfl (by decide +kernel) ⟨rfl, rfl⟩ ⟨(by simp only [headSpec]; omega), (by simp only [headSpec]; omega)⟩ [0, 2, 3] [1] rfl rfl rfl rfl (by decide) (ci := 10) rfl rfl 0 rfl rfl rfl (Nat.le_of_ble_eq_true rfl) ⟨Nat.le_of_ble_eq_true rfl, Nat.le_of_ble_eq_true rfl⟩ dX11_operand_81 (fun v_81 w_81 h_81 => ?_)
              obtain ⟨z19_b, b20_b, b21_b, rfl, rfl, hMC2_b⟩ := h_81
              refine V_to (pc' := 84) (ls' := [(1, .int r_2), (0, .ref m)]) (st' := []) (ws' := [((R 14), .inl (Y 2, 120, .inl a14)), (m, .inr (10, mF R v0 v7 v8 v9 v15 z16_h v17 v18 z19_b v27 v31 v32 v33 v34 v38 v42 v44)), ((R 20), .inl (Y 2, 260, .inl b20_b)), ((R 21), .inl (Y 0, 260, .inl b21_b))]) ?_ rfl rfl rfl rfl
              have hc_0 : (0 : Int32).toInt = 0 := by decide
              have hc_3 : (3 : Int32).toInt = 3 := by decide
              refine V_goto X 154 (by decide) dX11_operand_84 ?_
              refine V_ws (ws' := [(m, .inr (10, mF R v0 v7 v8 v9 v15 z16_h v17 v18 z19_b v27 v31 v32 v33 v34 v38 v42 v44)), ((R 14), .inl (Y 2, 120, .inl a14)), ((R 20), .inl (Y 2, 260, .inl b20_b)), ((R 21), .inl (Y 0, 260, .inl b21_b))]) [1, 0, 2, 3] rfl rfl rfl ?_
              exact V_vret X hr dX11_operand_154 (Or.inl ⟨q_h, (ts_h ++ [((if c pos = 45 then 126 else 33), 0)]), z16_h, z19_b, b20_b, b21_b, rfl, rfl, (by omega), ((pOp_u (by omega)).trans (pNe_s hR_h)), ⟨by rw [List.length_append]; show pos + (ts_h.length + 1) ≤ q_h; omega, hqb_h.2⟩, (by have h9 := hMC2_b; rw [show (3 : Int32).toInt = 3 from by decide, show (0 : Int32).toInt = 0 from by decide] at h9; rw [if_neg (by omega), List.map_append, ← List.append_assoc]; exact h9)⟩)
          · refine V_to (pc' := 58) (ls' := [(1, .int r_2), (0, .ref m)]) (st' := []) (ws' := [(m, .inr (10, mF R v0 v7 v8 v9 v15 z16_h z17_h z18_h z19_h v27 v31 v32 v33 v34 v38 v42 v44)), ((R 14), .inl (Y 2, 120, .inl a14)), ((R 20), .inl (Y 2, 260, .inl b20_h)), ((R 21), .inl (Y 0, 260, .inl b21_h))]) ?_ rfl rfl rfl rfl
            refine V_aload_n X 1 rfl dX11_operand_58 ?_
            refine V_dup X rfl dX11_operand_59 ?_
            refine V_get (C := RX11) (T := TX11) (N := 50) (ci := 10) (v := .int z18_h) X in_X11_operand_X11 0 rfl rfl 18 (by decide) (List.mem_of_getElem? (i := 2) rfl) rfl rfl dX11_operand_60 ?_
            refine V_iconst (v := (1 : Int32)) X (by decide) dX11_operand_63 ?_
            refine V_isub X dX11_operand_64 (fun x_173 ex_173 => ?_)
            refine V_put (C := RX11) (T := TX11) (N := 50) (ci := 10) (v := .int x_173) (ty := tyX11 18) (ws' := [(m, .inr (10, mF R v0 v7 v8 v9 v15 z16_h z17_h x_173 z19_h v27 v31 v32 v33 v34 v38 v42 v44)), ((R 14), .inl (Y 2, 120, .inl a14)), ((R 20), .inl (Y 2, 260, .inl b20_h)), ((R 21), .inl (Y 0, 260, .inl b21_h))]) X in_X11_operand_X11 0 rfl rfl 18 (by decide) (List.mem_of_getElem? (i := 2) rfl) rfl tyX11 tyX11_ok nmX11 rfl (tyX11_ok 18 (by decide)) rfl rfl (Nat.le_of_ble_eq_true rfl) rfl dX11_operand_65 ?_
            refine V_aload_n X 1 rfl dX11_operand_68 ?_
            refine V_iload_n X 0 rfl dX11_operand_69 ?_
            refine V_bipush (v := (33 : Int32)) X (by decide) dX11_operand_70 ?_
            refine V_icmp_ne X rfl (show (33 : Int32).toInt = 33 from by decide) 79 dX11_operand_72 (by decide) (fun c_72 => ?_) (fun c_72 => ?_)
            · refine V_iconst (v := (4 : Int32)) X (by decide) dX11_operand_79 ?_
              refine V_iconst (v := (0 : Int32)) X (by decide) dX11_operand_80 ?_
              refine V_callV (C := RX11) (wr := [((R 14), .inl (Y 2, 120, .inl a14))]) (st := []) X (c_X11_addStepD l D Y m R v0 v7 v8 v9 v15 z16_h z17_h x_173 z19_h v27 v31 v32 v33 v34 v38 v42 v44 b20_h b21_h lo20 lo21 l2_h (4 : Int32) (0 : Int32) tz19_h hLO2_h (by omega)) 2 gX11_operand_X11_addStep rfl (by decide +kernel) ⟨rfl, rfl⟩ ⟨(by simp only [headSpec]; omega), (by simp only [headSpec]; omega)⟩ [0, 2, 3] [1] rfl rfl rfl rfl (by decide) (ci := 10) rfl rfl 0 rfl rfl rfl (Nat.le_of_ble_eq_true rfl) ⟨Nat.le_of_ble_eq_true rfl, Nat.le_of_ble_eq_true rfl⟩ dX11_operand_81 (fun v_81 w_81 h_81 => ?_)
              obtain ⟨z19_b, b20_b, b21_b, rfl, rfl, tz19_b, hLO2_b⟩ := h_81
              refine V_to (pc' := 84) (ls' := [(1, .int r_2), (0, .ref m)]) (st' := []) (ws' := [((R 14), .inl (Y 2, 120, .inl a14)), (m, .inr (10, mF R v0 v7 v8 v9 v15 z16_h z17_h x_173 z19_b v27 v31 v32 v33 v34 v38 v42 v44)), ((R 20), .inl (Y 2, 260, .inl b20_b)), ((R 21), .inl (Y 0, 260, .inl b21_b))]) ?_ rfl rfl rfl rfl
              refine V_goto X 154 (by decide) dX11_operand_84 ?_
              refine V_ws (ws' := [(m, .inr (10, mF R v0 v7 v8 v9 v15 z16_h z17_h x_173 z19_b v27 v31 v32 v33 v34 v38 v42 v44)), ((R 14), .inl (Y 2, 120, .inl a14)), ((R 20), .inl (Y 2, 260, .inl b20_b)), ((R 21), .inl (Y 0, 260, .inl b21_b))]) [1, 0, 2, 3] rfl rfl rfl ?_
              exact V_vret X hr dX11_operand_154 (Or.inr (⟨q_h, (l2_h + 1), z16_h, z17_h, x_173, z19_b, b20_b, b21_b, rfl, rfl, (by omega), (by omega), ((pOp_u (by omega)).trans (pBd_n hR_h)), (by omega), tz19_b, (by omega), hLO2_b⟩))
            · refine V_iconst (v := (3 : Int32)) X (by decide) dX11_operand_75 ?_
              refine V_goto X 80 (by decide) dX11_operand_76 ?_
              refine V_iconst (v := (0 : Int32)) X (by decide) dX11_operand_80 ?_
              refine V_callV (C := RX11) (wr := [((R 14), .inl (Y 2, 120, .inl a14))]) (st := []) X (c_X11_addStepD l D Y m R v0 v7 v8 v9 v15 z16_h z17_h x_173 z19_h v27 v31 v32 v33 v34 v38 v42 v44 b20_h b21_h lo20 lo21 l2_h (3 : Int32) (0 : Int32) tz19_h hLO2_h (by omega)) 2 gX11_operand_X11_addStep rfl (by decide +kernel) ⟨rfl, rfl⟩ ⟨(by simp only [headSpec]; omega), (by simp only [headSpec]; omega)⟩ [0, 2, 3] [1] rfl rfl rfl rfl (by decide) (ci := 10) rfl rfl 0 rfl rfl rfl (Nat.le_of_ble_eq_true rfl) ⟨Nat.le_of_ble_eq_true rfl, Nat.le_of_ble_eq_true rfl⟩ dX11_operand_81 (fun v_81 w_81 h_81 => ?_)
              obtain ⟨z19_b, b20_b, b21_b, rfl, rfl, tz19_b, hLO2_b⟩ := h_81
              refine V_to (pc' := 84) (ls' := [(1, .int r_2), (0, .ref m)]) (st' := []) (ws' := [((R 14), .inl (Y 2, 120, .inl a14)), (m, .inr (10, mF R v0 v7 v8 v9 v15 z16_h z17_h x_173 z19_b v27 v31 v32 v33 v34 v38 v42 v44)), ((R 20), .inl (Y 2, 260, .inl b20_b)), ((R 21), .inl (Y 0, 260, .inl b21_b))]) ?_ rfl rfl rfl rfl
              refine V_goto X 154 (by decide) dX11_operand_84 ?_
              refine V_ws (ws' := [(m, .inr (10, mF R v0 v7 v8 v9 v15 z16_h z17_h x_173 z19_b v27 v31 v32 v33 v34 v38 v42 v44)), ((R 14), .inl (Y 2, 120, .inl a14)), ((R 20), .inl (Y 2, 260, .inl b20_b)), ((R 21), .inl (Y 0, 260, .inl b21_b))]) [1, 0, 2, 3] rfl rfl rfl ?_
              exact V_vret X hr dX11_operand_154 (Or.inr (⟨q_h, (l2_h + 1), z16_h, z17_h, x_173, z19_b, b20_b, b21_b, rfl, rfl, (by omega), (by omega), ((pOp_u (by omega)).trans (pBd_n hR_h)), (by omega), tz19_b, (by omega), hLO2_b⟩))
  · have hqlt := MCHR_lt hCH (show c pos ≠ -1 by intro h; have h9 := nmC_big (show 0 ≤ nmC (c pos) by omega); omega)
    have hxx := nmC_big (show 0 ≤ nmC (c pos) by omega)
    refine V_aload_n X 1 rfl dX11_operand_12 ?_
    refine V_iconst (v := (2 : Int32)) X (by decide) dX11_operand_13 ?_
    refine V_iload_n X 0 rfl dX11_operand_14 ?_
    refine V_callS (wr := [((R 20), .inl (Y 2, 260, .inl a20)), ((R 21), .inl (Y 0, 260, .inl a21)), (m, .inr (10, mF R v0 v7 v8 v9 v15 v16 v17 v18 v19 v27 v31 v32 v33 v34 v38 v42 v44)), ((R 14), .inl (Y 2, 120, .inl a14))]) (st := [.int (2 : Int32), .ref m]) X (c_X11_nameOf l D Y r_2) 1 gX11_operand_X11_nameOf rfl (by decide +kernel) ⟨rfl, rfl⟩ ⟨(by simp only [headSpec]; omega), (by simp only [headSpec]; omega)⟩ [] [0, 1, 2, 3] rfl rfl rfl rfl (by decide) rfl rfl (Nat.le_of_ble_eq_true rfl) ⟨Nat.le_of_ble_eq_true rfl, Nat.le_of_ble_eq_true rfl⟩ dX11_operand_15 (fun v_15 w_15 h_15 => ?_)
    obtain ⟨r_187, rfl, rfl, htr_188⟩ := h_15
    refine V_to (pc' := 18) (ls' := [(1, .int r_2), (0, .ref m)]) (st' := [.int r_187, .int (2 : Int32), .ref m]) (ws' := [((R 20), .inl (Y 2, 260, .inl a20)), ((R 21), .inl (Y 0, 260, .inl a21)), (m, .inr (10, mF R v0 v7 v8 v9 v15 v16 v17 v18 v19 v27 v31 v32 v33 v34 v38 v42 v44)), ((R 14), .inl (Y 2, 120, .inl a14))]) ?_ rfl rfl rfl rfl
    refine V_callV (C := RX11) (wr := [((R 14), .inl (Y 2, 120, .inl a14))]) (st := []) X (c_X11_addStep l D Y m R v0 v7 v8 v9 v15 v16 v17 v18 v19 v27 v31 v32 v33 v34 v38 v42 v44 a20 a21 lo20 lo21 t0 (2 : Int32) r_187 hMC (by omega) (by decide)) 2 gX11_operand_X11_addStep rfl (by decide +kernel) ⟨rfl, rfl⟩ ⟨(by simp only [headSpec]; omega), (by simp only [headSpec]; omega)⟩ [2, 0, 1] [3] rfl rfl rfl rfl (by decide) (ci := 10) rfl rfl 0 rfl rfl rfl (Nat.le_of_ble_eq_true rfl) ⟨Nat.le_of_ble_eq_true rfl, Nat.le_of_ble_eq_true rfl⟩ dX11_operand_18 (fun v_18 w_18 h_18 => ?_)
    obtain ⟨z19_a, b20_a, b21_a, rfl, rfl, hMC2_a⟩ := h_18
    refine V_to (pc' := 21) (ls' := [(1, .int r_2), (0, .ref m)]) (st' := []) (ws' := [((R 14), .inl (Y 2, 120, .inl a14)), (m, .inr (10, mF R v0 v7 v8 v9 v15 v16 v17 v18 z19_a v27 v31 v32 v33 v34 v38 v42 v44)), ((R 20), .inl (Y 2, 260, .inl b20_a)), ((R 21), .inl (Y 0, 260, .inl b21_a))]) ?_ rfl rfl rfl rfl
    have hc_2 : (2 : Int32).toInt = 2 := by decide
    refine V_aload_n X 1 rfl dX11_operand_21 ?_
    refine V_dup X rfl dX11_operand_22 ?_
    refine V_get (C := RX11) (T := TX11) (N := 50) (ci := 10) (v := .int v16) X in_X11_operand_X11 1 rfl rfl 16 (by decide) (List.mem_of_getElem? (i := 1) rfl) rfl rfl dX11_operand_23 ?_
    refine V_iconst (v := (1 : Int32)) X (by decide) dX11_operand_26 ?_
    refine V_iaddZ X tv16 (show (1 : Int32).toInt = 1 from by decide) (by omega) (by omega) dX11_operand_27 (fun x_194 ex_194 tx_194 => ?_)
    have tx_194 : x_194.toInt = (((pos + 1) : Nat) : Int) := by omega
    refine V_put (C := RX11) (T := TX11) (N := 50) (ci := 10) (v := .int x_194) (ty := tyX11 16) (ws' := [((R 14), .inl (Y 2, 120, .inl a14)), (m, .inr (10, mF R v0 v7 v8 v9 v15 x_194 v17 v18 z19_a v27 v31 v32 v33 v34 v38 v42 v44)), ((R 20), .inl (Y 2, 260, .inl b20_a)), ((R 21), .inl (Y 0, 260, .inl b21_a))]) X in_X11_operand_X11 1 rfl rfl 16 (by decide) (List.mem_of_getElem? (i := 1) rfl) rfl tyX11 tyX11_ok nmX11 rfl (tyX11_ok 16 (by decide)) rfl rfl (Nat.le_of_ble_eq_true rfl) rfl dX11_operand_28 ?_
    refine V_goto X 154 (by decide) dX11_operand_31 ?_
    refine V_ws (ws' := [(m, .inr (10, mF R v0 v7 v8 v9 v15 x_194 v17 v18 z19_a v27 v31 v32 v33 v34 v38 v42 v44)), ((R 14), .inl (Y 2, 120, .inl a14)), ((R 20), .inl (Y 2, 260, .inl b20_a)), ((R 21), .inl (Y 0, 260, .inl b21_a))]) [1, 0, 2, 3] rfl rfl rfl ?_
    exact V_vret X hr dX11_operand_154 (Or.inl ⟨(pos + 1), [(97, nmC (c pos))], x_194, z19_a, b20_a, b21_a, rfl, rfl, (by omega), ((pOp_n (by have h9 := nmC_big (show 0 ≤ nmC (c pos) by omega); omega) (by omega))), ⟨Nat.le_refl _, by omega⟩, (by have h9 := hMC2_a; rw [show (2 : Int32).toInt = 2 from by decide, show r_187.toInt = nmC (c pos) by omega] at h9; exact h9)⟩)


set_option maxHeartbeats 4000000 in
set_option maxRecDepth 100000 in
theorem mO_all : ∀ k : Nat, ∀ (l : Launch) (D : va_G) (Y : Nat → ClassId) (m : Nat) (R : Nat → Nat) (v0 : Int32) (v7 : Int32) (v8 : Int32) (v9 : Int32) (v15 : Int32) (v16 : Int32) (v17 : Int32) (v18 : Int32) (v19 : Int32) (v27 : Int32) (v31 : Int32) (v32 : Int32) (v33 : Int32) (v34 : Int32) (v38 : Int32) (v42 : Int32) (v44 : Int32) (a14 : Nat → Int32) (a20 : Nat → Int32) (a21 : Nat → Int32) (L : Nat) (c : Nat → Int) (pos : Nat) (lo20 : Nat → Int32) (lo21 : Nat → Int32) (t0 : List Tok) (opn : Nat) (tv15 : v15.toInt = ((L : Nat) : Int)) (tv16 : v16.toInt = ((pos : Nat) : Int)) (hL : L ≤ 120) (hpL : pos ≤ L) (hCH : MCHR a14 L c) (tv17 : v17.toInt = (-1)) (hMC : MC lo20 lo21 a20 a21 v19 t0) (tv18 : v18.toInt = ((opn : Nat) : Int)) (htp : t0.length ≤ pos) (hok : opn + k = 6), Mg l yX11_operand wsX11_operand ({ frames := 6 * (k) + 4, cells := 0, slots := 0, locals := 132 * (k) + 70 }) D Y [(m, .inr (10, mF R v0 v7 v8 v9 v15 v16 v17 v18 v19 v27 v31 v32 v33 v34 v38 v42 v44)), ((R 14), .inl (Y 2, 120, .inl a14)), ((R 20), .inl (Y 2, 260, .inl a20)), ((R 21), .inl (Y 0, 260, .inl a21))] [.ref m] 0 0 (fun vv__ ww__ => (∃ (q : Nat), ∃ (ts : List Tok), ∃ (z16 : Int32), ∃ (z19 : Int32), ∃ (b20 : Nat → Int32), ∃ (b21 : Nat → Int32), vv__ = none ∧ ww__ = [(m, .inr (10, mF R v0 v7 v8 v9 v15 z16 v17 v18 z19 v27 v31 v32 v33 v34 v38 v42 v44)), ((R 14), .inl (Y 2, 120, .inl a14)), ((R 20), .inl (Y 2, 260, .inl b20)), ((R 21), .inl (Y 0, 260, .inl b21))] ∧ (z16.toInt = ((q : Nat) : Int)) ∧ (pOp c k pos = (q, some ts)) ∧ (pos + ts.length ≤ q ∧ q ≤ L) ∧ (MC lo20 lo21 b20 b21 z19 (t0 ++ ts.map mkT))) ∨ (∃ (q : Nat), ∃ (l2 : Nat), ∃ (z16 : Int32), ∃ (z17 : Int32), ∃ (z18 : Int32), ∃ (z19 : Int32), ∃ (b20 : Nat → Int32), ∃ (b21 : Nat → Int32), vv__ = none ∧ ww__ = [(m, .inr (10, mF R v0 v7 v8 v9 v15 z16 z17 z18 z19 v27 v31 v32 v33 v34 v38 v42 v44)), ((R 14), .inl (Y 2, 120, .inl a14)), ((R 20), .inl (Y 2, 260, .inl b20)), ((R 21), .inl (Y 0, 260, .inl b21))] ∧ (z16.toInt = ((q : Nat) : Int)) ∧ (z17.toInt = ((q : Nat) : Int)) ∧ (pOp c k pos = (q, none)) ∧ (q ≤ L) ∧ (z19.toInt = ((l2 : Nat) : Int)) ∧ (l2 + pos ≤ t0.length + q + 1) ∧ (LO lo20 lo21 b20 b21))) := by
  intro k
  induction k with
  | zero => intro l D Y m R v0 v7 v8 v9 v15 v16 v17 v18 v19 v27 v31 v32 v33 v34 v38 v42 v44 a14 a20 a21 L c pos lo20 lo21 t0 opn tv15 tv16 hL hpL hCH tv17 hMC tv18 htp hok; exact c_X11_operand_0 l D Y m R v0 v7 v8 v9 v15 v16 v17 v18 v19 v27 v31 v32 v33 v34 v38 v42 v44 a14 a20 a21 L c pos lo20 lo21 t0 opn tv15 tv16 hL hpL hCH tv17 hMC tv18 htp hok
  | succ k mhO => intro l D Y m R v0 v7 v8 v9 v15 v16 v17 v18 v19 v27 v31 v32 v33 v34 v38 v42 v44 a14 a20 a21 L c pos lo20 lo21 t0 opn tv15 tv16 hL hpL hCH tv17 hMC tv18 htp hok; exact c_X11_operand_s l D Y m R v0 v7 v8 v9 v15 v16 v17 v18 v19 v27 v31 v32 v33 v34 v38 v42 v44 a14 a20 a21 L c pos lo20 lo21 t0 opn k tv15 tv16 hL hpL hCH tv17 hMC tv18 htp hok mhO
set_option maxHeartbeats 4000000 in
set_option maxRecDepth 100000 in
theorem c_X11_either_00 (l : Launch) (D : va_G) (Y : Nat → ClassId) (m : Nat) (R : Nat → Nat) (v0 : Int32) (v7 : Int32) (v8 : Int32) (v9 : Int32) (v15 : Int32) (v16 : Int32) (v17 : Int32) (v18 : Int32) (v19 : Int32) (v27 : Int32) (v31 : Int32) (v32 : Int32) (v33 : Int32) (v34 : Int32) (v38 : Int32) (v42 : Int32) (v44 : Int32) (a14 : Nat → Int32) (a20 : Nat → Int32) (a21 : Nat → Int32) (L : Nat) (c : Nat → Int) (pos : Nat) (lo20 : Nat → Int32) (lo21 : Nat → Int32) (t0 : List Tok) (opn : Nat) (tv15 : v15.toInt = ((L : Nat) : Int)) (tv16 : v16.toInt = ((pos : Nat) : Int)) (hL : L ≤ 120) (hpL : pos ≤ L) (hCH : MCHR a14 L c) (tv17 : v17.toInt = (-1)) (hMC : MC lo20 lo21 a20 a21 v19 t0) (tv18 : v18.toInt = ((opn : Nat) : Int)) (htp : t0.length ≤ pos) (ho : opn = 0) : Mg l yX11_either wsX11_either ({ frames := 6 * (6) + 4 + 5, cells := 0, slots := 0, locals := 132 * (6) + 70 + 22 * 5 }) D Y [(m, .inr (10, mF R v0 v7 v8 v9 v15 v16 v17 v18 v19 v27 v31 v32 v33 v34 v38 v42 v44)), ((R 14), .inl (Y 2, 120, .inl a14)), ((R 20), .inl (Y 2, 260, .inl a20)), ((R 21), .inl (Y 0, 260, .inl a21))] [.ref m] 0 0 (fun vv__ ww__ => (∃ (q : Nat), ∃ (ts : List Tok), ∃ (z16 : Int32), ∃ (z19 : Int32), ∃ (b20 : Nat → Int32), ∃ (b21 : Nat → Int32), vv__ = none ∧ ww__ = [(m, .inr (10, mF R v0 v7 v8 v9 v15 z16 v17 v18 z19 v27 v31 v32 v33 v34 v38 v42 v44)), ((R 14), .inl (Y 2, 120, .inl a14)), ((R 20), .inl (Y 2, 260, .inl b20)), ((R 21), .inl (Y 0, 260, .inl b21))] ∧ (z16.toInt = ((q : Nat) : Int)) ∧ (pT0 c pos = (q, some ts)) ∧ (pos + ts.length ≤ q ∧ q ≤ L) ∧ (MC lo20 lo21 b20 b21 z19 (t0 ++ ts.map mkT))) ∨ (∃ (q : Nat), ∃ (l2 : Nat), ∃ (z16 : Int32), ∃ (z17 : Int32), ∃ (z18 : Int32), ∃ (z19 : Int32), ∃ (b20 : Nat → Int32), ∃ (b21 : Nat → Int32), vv__ = none ∧ ww__ = [(m, .inr (10, mF R v0 v7 v8 v9 v15 z16 z17 z18 z19 v27 v31 v32 v33 v34 v38 v42 v44)), ((R 14), .inl (Y 2, 120, .inl a14)), ((R 20), .inl (Y 2, 260, .inl b20)), ((R 21), .inl (Y 0, 260, .inl b21))] ∧ (z16.toInt = ((q : Nat) : Int)) ∧ (z17.toInt = ((q : Nat) : Int)) ∧ (pT0 c pos = (q, none)) ∧ (q ≤ L) ∧ (z19.toInt = ((l2 : Nat) : Int)) ∧ (l2 + pos ≤ t0.length + q + 1) ∧ (LO lo20 lo21 b20 b21))) := c_X11_either l D Y m R v0 v7 v8 v9 v15 v16 v17 v18 v19 v27 v31 v32 v33 v34 v38 v42 v44 a14 a20 a21 L c pos lo20 lo21 t0 opn 6 tv15 tv16 hL hpL hCH tv17 hMC tv18 htp (by omega) (mO_all 6)
