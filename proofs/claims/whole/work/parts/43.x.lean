
/-! ===== what steps give, on a stack ===== -/
def stM (nm : Nat → Int32) (t : Tok) (s : List Int32) : Option (List Int32) :=
  if t.1 = 1 then some (Int32.ofInt t.2 :: s)
  else if t.1 = 2 then (if 0 ≤ t.2 ∧ t.2 < 6 then some (nm t.2.toNat :: s) else none)
  else if t.1 = 3 then (match s with | [] => none | x :: s' => some ((if x.toInt = 0 then 1 else 0) :: s'))
  else if t.1 = 4 then (match s with | [] => none | x :: s' => some (-x :: s'))
  else if 0 ≤ lvC t.1 then (match s with | b :: a :: s' => some (bothL t.1 a b :: s') | _ => none)
  else none
def evM (nm : Nat → Int32) : List Tok → List Int32 → Option (List Int32)
  | [], s => some s
  | t :: ts, s => (stM nm t s).bind (evM nm ts)
theorem evM_app (nm : Nat → Int32) : ∀ (a b : List Tok) (s : List Int32), evM nm (a ++ b) s = (evM nm a s).bind (evM nm b)
  | [], b, s => rfl
  | t :: a, b, s => by
    show (stM nm t s).bind (evM nm (a ++ b)) = ((stM nm t s).bind (evM nm a)).bind (evM nm b)
    cases stM nm t s with
    | none => rfl
    | some s2 => exact evM_app nm a b s2
def OKT (ts : List Tok) : Prop := ∀ nm, ∃ v, ∀ s, evM nm (ts.map mkT) s = some (v :: s)
def valM (nm : Nat → Int32) (ts : List Tok) : Int32 := match evM nm (ts.map mkT) [] with
  | some (v :: _) => v
  | _ => 0
theorem OKT_val {ts : List Tok} (h : OKT ts) (nm : Nat → Int32) (s : List Int32) : evM nm (ts.map mkT) s = some (valM nm ts :: s) := by
  obtain ⟨v, hv⟩ := h nm
  have : valM nm ts = v := by unfold valM; rw [hv []]
  rw [this]; exact hv s
theorem st_op {nm : Nat → Int32} {e : Int} {z : Int} (h : 0 ≤ lvC e) (a b : Int32) (s : List Int32) : stM nm (e, z) (b :: a :: s) = some (bothL e a b :: s) := by
  have h1 := lvC_big (show lvC e ≠ -2 by omega)
  have h2 : e ≠ 1 ∧ e ≠ 2 ∧ e ≠ 3 ∧ e ≠ 4 := by
    unfold lvC at h
    refine ⟨?_, ?_, ?_, ?_⟩ <;> (intro q; subst q; exact absurd h (by decide))
  unfold stM
  rw [if_neg h2.1, if_neg h2.2.1, if_neg h2.2.2.1, if_neg h2.2.2.2, if_pos h]
theorem OKT_pT {c : Nat → Int} {pos q : Nat} {ts : List Tok} (h : pT0 c pos = (q, some ts)) : OKT ts := by
  refine (pT_ind (c := c) (P := OKT) ?_ ?_ ?_ ?_ 6).2 5 pos q ts h
  · intro v _ _ nm; exact ⟨Int32.ofInt v, fun s => rfl⟩
  · intro j hj nm
    have := (nmC_big hj).2.2
    refine ⟨nm (nmC j).toNat, fun s => ?_⟩
    show (stM nm (2, nmC j) s).bind _ = _
    unfold stM
    rw [if_neg (by show ¬ (2 : Int) = 1; decide), if_pos rfl, if_pos ⟨hj, this⟩]; rfl
  · intro a v ha hv nm
    obtain ⟨x, hx⟩ := ha nm
    rcases hv with rfl | rfl
    · refine ⟨-x, fun s => ?_⟩
      rw [List.map_append, evM_app, hx s]; rfl
    · refine ⟨if x.toInt = 0 then 1 else 0, fun s => ?_⟩
      rw [List.map_append, evM_app, hx s]; rfl
  · intro a b e ha hb he nm
    obtain ⟨x, hx⟩ := ha nm
    obtain ⟨y, hy⟩ := hb nm
    refine ⟨bothL e x y, fun s => ?_⟩
    rw [List.map_append, List.map_append, List.map_singleton, mkT_op he, evM_app, evM_app, hx s]
    show ((evM nm (b.map mkT) (x :: s))).bind _ = _
    rw [hy]
    show (stM nm (e, 0) (y :: x :: s)).bind _ = _
    rw [st_op he]; rfl
def OKL : Lin → Prop
  | (none, ts) => OKT ts
  | (some t, ts) => OKT t ∧ OKT ts ∧ 0 < t.length
def OKS (ls : List Lin) : Prop := ∀ x ∈ ls, OKL x
theorem OKL_pLn {c : Nat → Int} {pos q : Nat} {x : Lin} (h : pLn c pos = (q, some x)) : OKL x := by
  unfold pLn at h
  split at h
  · cases h
  · rename_i q1 ts e
    split at h
    · split at h
      · cases h
      · rename_i q2 t2 e2; cases h; exact ⟨OKT_pT e, OKT_pT e2, pT0_ne e⟩
    · cases h; exact OKT_pT e
theorem OKS_pTx {c : Nat → Int} : ∀ (n q : Nat) (ls : List Lin) (q2 : Nat) (l2 : List Lin), OKS ls → pTx c n q ls = (q2, some l2) → OKS l2
  | 0, q, ls, q2, l2, h, e => by cases e; exact h
  | n + 1, q, ls, q2, l2, h, e => by
    rw [pTx] at e
    by_cases hc : c q = 59
    · rw [if_pos hc] at e
      split at e
      · cases e
      · rename_i q1 x e1
        refine OKS_pTx n q1 _ q2 l2 ?_ e
        intro y hy
        rcases List.mem_append.mp hy with g | g
        · exact h y g
        · rw [List.mem_singleton] at g; subst g; exact OKL_pLn e1
    · rw [if_neg hc] at e; cases e; exact h
theorem OKS_pAll {c : Nat → Int} {q : Nat} {ls : List Lin} (h : pAll c = (q, some ls)) : OKS ls := by
  unfold pAll at h
  split at h
  · cases h
  · rename_i q1 x e1
    refine OKS_pTx 120 q1 [x] q ls ?_ h
    intro y hy
    rw [List.mem_singleton] at hy; subst hy; exact OKL_pLn e1
def GVL (nm : Nat → Int32) : List Lin → Int32
  | [] => 0
  | (none, ts) :: _ => valM nm ts
  | (some t, ts) :: ls => if (valM nm t).toInt = 0 then GVL nm ls else valM nm ts
section EVM
variable {nm : Nat → Int32} {t : Tok} {r : List Tok} {s w : List Int32}
theorem ev_1 (h : evM nm (t :: r) s = some w) (h1 : t.1 = 1) : evM nm r (Int32.ofInt t.2 :: s) = some w := by
  have : stM nm t s = some (Int32.ofInt t.2 :: s) := by unfold stM; rw [if_pos h1]
  have h' : (stM nm t s).bind (evM nm r) = some w := h
  rw [this] at h'; exact h'
theorem ev_2 (h : evM nm (t :: r) s = some w) (h1 : t.1 = 2) : ∃ jn : Nat, t.2 = (jn : Int) ∧ jn < 6 ∧ evM nm r (nm jn :: s) = some w := by
  have h' : (stM nm t s).bind (evM nm r) = some w := h
  have e : stM nm t s = (if 0 ≤ t.2 ∧ t.2 < 6 then some (nm t.2.toNat :: s) else none) := by unfold stM; rw [if_neg (by omega), if_pos h1]
  rw [e] at h'
  by_cases c : 0 ≤ t.2 ∧ t.2 < 6
  · rw [if_pos c] at h'; exact ⟨t.2.toNat, by omega, by omega, h'⟩
  · rw [if_neg c] at h'; cases h'
theorem ev_3 (h : evM nm (t :: r) s = some w) (h1 : t.1 = 3) : ∃ x s', s = x :: s' ∧ evM nm r ((if x.toInt = 0 then 1 else 0) :: s') = some w := by
  cases s with
  | nil =>
    have h' : (stM nm t []).bind (evM nm r) = some w := h
    have e : stM nm t [] = none := by unfold stM; rw [if_neg (by omega), if_neg (by omega), if_pos h1]
    rw [e] at h'; cases h'
  | cons x s' =>
    have h' : (stM nm t (x :: s')).bind (evM nm r) = some w := h
    have e : stM nm t (x :: s') = some ((if x.toInt = 0 then 1 else 0) :: s') := by unfold stM; rw [if_neg (by omega), if_neg (by omega), if_pos h1]
    rw [e] at h'; exact ⟨x, s', rfl, h'⟩
theorem ev_4 (h : evM nm (t :: r) s = some w) (h1 : t.1 = 4) : ∃ x s', s = x :: s' ∧ evM nm r (-x :: s') = some w := by
  cases s with
  | nil =>
    have h' : (stM nm t []).bind (evM nm r) = some w := h
    have e : stM nm t [] = none := by unfold stM; rw [if_neg (by omega), if_neg (by omega), if_neg (by omega), if_pos h1]
    rw [e] at h'; cases h'
  | cons x s' =>
    have h' : (stM nm t (x :: s')).bind (evM nm r) = some w := h
    have e : stM nm t (x :: s') = some (-x :: s') := by unfold stM; rw [if_neg (by omega), if_neg (by omega), if_neg (by omega), if_pos h1]
    rw [e] at h'; exact ⟨x, s', rfl, h'⟩
theorem ev_5 (h : evM nm (t :: r) s = some w) (h1 : t.1 ≠ 1) (h2 : t.1 ≠ 2) (h3 : t.1 ≠ 3) (h4 : t.1 ≠ 4) : 0 ≤ lvC t.1 ∧ ∃ b a s', s = b :: a :: s' ∧ evM nm r (bothL t.1 a b :: s') = some w := by
  have h' : (stM nm t s).bind (evM nm r) = some w := h
  have e : stM nm t s = (if 0 ≤ lvC t.1 then (match s with | b :: a :: s' => some (bothL t.1 a b :: s') | _ => none) else none) := by unfold stM; rw [if_neg h1, if_neg h2, if_neg h3, if_neg h4]
  rw [e] at h'
  by_cases c : 0 ≤ lvC t.1
  · rw [if_pos c] at h'
    refine ⟨c, ?_⟩
    cases s with
    | nil => cases h'
    | cons b s =>
      cases s with
      | nil => cases h'
      | cons a s' => exact ⟨b, a, s', rfl, h'⟩
  · rw [if_neg c] at h'; cases h'
theorem dr_s {seg : List Tok} {i : Nat} (h : i < seg.length) : seg.drop i = seg.getD i (0, 0) :: seg.drop (i + 1) := by
  rw [List.getD_eq_getElem?_getD, List.getElem?_eq_getElem h]
  exact List.drop_eq_getElem_cons h
end EVM
def PIL (g : Nat → Int32) (s : List Int32) : Prop := ∀ j, j < s.length → g (s.length - 1 - j) = s.getD j 0
theorem PIL_push {g : Nat → Int32} {s : List Int32} (h : PIL g s) {n : Nat} (hn : n = s.length) (v : Int32) : PIL (upd g n v) (v :: s) := by
  subst hn
  intro j hj
  rw [List.length_cons] at hj ⊢
  unfold upd
  cases j with
  | zero => rw [if_pos (by omega)]; rfl
  | succ j => rw [if_neg (by omega), show s.length + 1 - 1 - (j + 1) = s.length - 1 - j by omega]; exact h j (by omega)
theorem PIL_top {g : Nat → Int32} {x : Int32} {s : List Int32} (h : PIL g (x :: s)) : g s.length = x := by
  have := h 0 (Nat.succ_pos _)
  rw [List.length_cons] at this
  exact this
theorem PIL_pop {g : Nat → Int32} {x : Int32} {s : List Int32} (h : PIL g (x :: s)) : PIL g s := by
  intro j hj
  have := h (j + 1) (by rw [List.length_cons]; omega)
  rw [List.length_cons, show s.length + 1 - 1 - (j + 1) = s.length - 1 - j by omega] at this
  exact this
theorem lv_ops {e : Int} (h : 0 ≤ lvC e) : e = 37 ∨ e = 38 ∨ e = 42 ∨ e = 43 ∨ e = 45 ∨ e = 47 ∨ e = 60 ∨ e = 61 ∨ e = 62 ∨ e = 124 := by
  unfold lvC at h
  (repeat' split at h) <;> omega
theorem i_m1 {b : Int32} (h : b.toInt = -1) : b = -1 := Int32.toInt_inj.mp (h.trans (by decide))
theorem div_m1 (a : Int32) : a / (-1) = -a := by
  apply Int32.toInt_inj.mp
  rw [Int32.toInt_div, show (-1 : Int32).toInt = -1 by decide, Int32.toInt_neg, Int.tdiv_neg, Int.tdiv_one]
theorem bo_divm {q : Int} {a b r : Int32} (h : q = 47) (h1 : b.toInt = -1) (hr : r = -a) : r = bothL q a b := by
  have hb := i_m1 h1
  subst hb
  exact bo_div h (by decide) (by rw [hr, div_m1])
theorem bo_remm {q : Int} {a b : Int32} (h : q = 37) (h1 : b.toInt = -1) : (0 : Int32) = bothL q a b := by
  have hb := i_m1 h1
  subst hb
  refine bo_rem h (by decide) ?_
  rw [div_m1]
  apply Int32.toInt_inj.mp
  rw [Int32.toInt_sub, Int32.toInt_mul, Int32.toInt_neg, show (-1 : Int32).toInt = -1 by decide, show (0 : Int32).toInt = 0 by decide]
  have h2 := tI_bd a
  rw [Int.bmod_def, Int.bmod_def, Int.bmod_def]
  omega

theorem ls_dr {ls : List Lin} {k : Nat} (h : k < ls.length) : ls.drop k = ls.getD k (none, []) :: ls.drop (k + 1) := by
  rw [List.getD_eq_getElem?_getD, List.getElem?_eq_getElem h]
  exact List.drop_eq_getElem_cons h
theorem ls_mem {ls : List Lin} {k : Nat} (h : k < ls.length) : ls.getD k (none, []) ∈ ls := by
  rw [List.getD_eq_getElem?_getD, List.getElem?_eq_getElem h]; exact List.getElem_mem h
theorem mTE_n {ls : List Lin} {k : Nat} {ts : List Tok} (h : ls.getD k (none, []) = (none, ts)) : mTE ls k = (mcT (ls.take k)).length := by unfold mTE; rw [h]; rfl
theorem mTE_t {ls : List Lin} {k : Nat} {t ts : List Tok} (h : ls.getD k (none, []) = (some t, ts)) : mTE ls k = (mcT (ls.take k)).length + t.length := by unfold mTE; rw [h]; rfl
theorem tk_s {ls : List Lin} {k : Nat} (h : k < ls.length) : ls.take (k + 1) = ls.take k ++ [ls.getD k (none, [])] := by
  rw [List.getD_eq_getElem?_getD, List.take_add_one, List.getElem?_eq_getElem h]; rfl
theorem mLE_n {ls : List Lin} {k : Nat} {ts : List Tok} (h : ls.getD k (none, []) = (none, ts)) (hk : k < ls.length) : mLE ls k = (mcT (ls.take k)).length + ts.length := by
  unfold mLE; rw [tk_s hk, mcT_s, h, List.length_append, mcL_len]; show _ + (0 + ts.length) = _; omega
theorem mLE_t {ls : List Lin} {k : Nat} {t ts : List Tok} (h : ls.getD k (none, []) = (some t, ts)) (hk : k < ls.length) : mLE ls k = (mcT (ls.take k)).length + t.length + ts.length := by
  unfold mLE; rw [tk_s hk, mcT_s, h, List.length_append, mcL_len]; show _ + (t.length + ts.length) = _; omega
/-- a step of a LINE, by its place -/
theorem mcT_at {ls : List Lin} {k i : Nat} (hk : k < ls.length) (hi : i < (mcodeL (ls.getD k (none, []))).length) : (mcT ls).getD ((mcT (ls.take k)).length + i) (0, 0) = (mcodeL (ls.getD k (none, []))).getD i (0, 0) ∧ (mcT (ls.take k)).length + i < (mcT ls).length := by
  have e : mcT ls = mcT (ls.take k) ++ (mcodeL (ls.getD k (none, [])) ++ mcT (ls.drop (k + 1))) := by
    rw [← List.append_assoc, ← mcT_s, ← tk_s hk, ← mcT_app, List.take_append_drop]
  refine ⟨?_, ?_⟩
  · rw [e, gD_r (Nat.le_add_right _ _), Nat.add_sub_cancel_left, gD_l hi]
  · rw [e, List.length_append, List.length_append]; omega
section MLWs
variable {f20 f21 f22 f23 f24 : Nat → Int32} {ls : List Lin} {k i : Nat} {t ts : List Tok}
theorem MLW_n (h : MLW f20 f21 f22 f23 f24 ls) (hx : ls.getD k (none, []) = (none, ts)) (hk : k < ls.length) (hi : i < ts.length) : (f20 ((mcT (ls.take k)).length + i)).toInt = ((ts.map mkT).getD i (0, 0)).1 ∧ (f21 ((mcT (ls.take k)).length + i)).toInt = ((ts.map mkT).getD i (0, 0)).2 := by
  have h1 := mcT_at (i := i) hk (by rw [hx]; show i < (ts.map mkT).length; rw [List.length_map]; exact hi)
  rw [hx] at h1
  have h2 := h.2.2.2.1 _ h1.2
  rw [h1.1] at h2; exact h2
theorem MLW_t (h : MLW f20 f21 f22 f23 f24 ls) (hx : ls.getD k (none, []) = (some t, ts)) (hk : k < ls.length) (hi : i < t.length) : (f20 ((mcT (ls.take k)).length + i)).toInt = ((t.map mkT).getD i (0, 0)).1 ∧ (f21 ((mcT (ls.take k)).length + i)).toInt = ((t.map mkT).getD i (0, 0)).2 := by
  have h1 := mcT_at (i := i) hk (by rw [hx]; show i < ((t ++ ts).map mkT).length; rw [List.length_map, List.length_append]; omega)
  rw [hx] at h1
  have h2 := h.2.2.2.1 _ h1.2
  rw [h1.1, show mcodeL (some t, ts) = (t ++ ts).map mkT from rfl, List.map_append, gD_l (by rw [List.length_map]; exact hi)] at h2; exact h2
theorem MLW_s (h : MLW f20 f21 f22 f23 f24 ls) (hx : ls.getD k (none, []) = (some t, ts)) (hk : k < ls.length) (hi : i < ts.length) : (f20 ((mcT (ls.take k)).length + t.length + i)).toInt = ((ts.map mkT).getD i (0, 0)).1 ∧ (f21 ((mcT (ls.take k)).length + t.length + i)).toInt = ((ts.map mkT).getD i (0, 0)).2 := by
  have h1 := mcT_at (i := t.length + i) hk (by rw [hx]; show t.length + i < ((t ++ ts).map mkT).length; rw [List.length_map, List.length_append]; omega)
  rw [hx, ← Nat.add_assoc] at h1
  have h2 := h.2.2.2.1 _ h1.2
  rw [h1.1, show mcodeL (some t, ts) = (t ++ ts).map mkT from rfl, List.map_append, gD_r (by rw [List.length_map]; omega), List.length_map, Nat.add_sub_cancel_left] at h2; exact h2
end MLWs
set_option maxHeartbeats 4000000 in
set_option maxRecDepth 100000 in
theorem c_X11_twoOf (l : Launch) (D : va_G) (Y : Nat → ClassId) (q : Int32) (x : Int32) (y : Int32) (hop : 0 ≤ lvC q.toInt) : Mg l yX11_twoOf wsX11_twoOf ({ frames := 0, cells := 0, slots := 0, locals := 0 }) D Y [] [.int q, .int x, .int y] 0 0 (fun vv__ ww__ => (∃ (r : Int32), vv__ = some (.int r) ∧ ww__ = [] ∧ (r = bothL q.toInt x y))) := by
  refine Mg_of (cc := cX11_twoOf) (maxL := 3) (ret := (some .int)) (ls0 := [(0, .int q), (1, .int x), (2, .int y)]) RX11 (by decide) rfl rfl rfl (Nat.le_of_ble_eq_true rfl) (fun p__ e__ s__ m__ b__ t__ c__ X hr hn => ?_)
  have hop2 := lv_ops hop
  refine V_iload_n X 0 rfl dX11_twoOf_0 ?_
  have t_1 : q.toInt = q.toInt := rfl
  rcases (by omega : q.toInt = 37 ∨ q.toInt = 38 ∨ q.toInt = 39 ∨ q.toInt = 40 ∨ q.toInt = 41 ∨ q.toInt = 42 ∨ q.toInt = 43 ∨ q.toInt = 44 ∨ q.toInt = 45 ∨ q.toInt = 46 ∨ q.toInt = 47 ∨ q.toInt = 48 ∨ q.toInt = 49 ∨ q.toInt = 50 ∨ q.toInt = 51 ∨ q.toInt = 52 ∨ q.toInt = 53 ∨ q.toInt = 54 ∨ q.toInt = 55 ∨ q.toInt = 56 ∨ q.toInt = 57 ∨ q.toInt = 58 ∨ q.toInt = 59 ∨ q.toInt = 60 ∨ q.toInt = 61 ∨ q.toInt = 62 ∨ (q.toInt < 37 ∨ 62 < q.toInt)) with c_1 | c_1 | c_1 | c_1 | c_1 | c_1 | c_1 | c_1 | c_1 | c_1 | c_1 | c_1 | c_1 | c_1 | c_1 | c_1 | c_1 | c_1 | c_1 | c_1 | c_1 | c_1 | c_1 | c_1 | c_1 | c_1 | c_1
  · refine V_tableIn X 154 0 dX11_twoOf_1 (by omega) (by decide) rfl (by decide) ?_
    refine V_iload_n X 2 rfl dX11_twoOf_154 ?_
    refine V_if_eq X rfl 163 dX11_twoOf_155 (by decide) (fun c_155 => ?_) (fun c_155 => ?_)
    · refine V_iconst (v := (0 : Int32)) X (by decide) dX11_twoOf_163 ?_
      refine V_goto X 170 (by decide) dX11_twoOf_164 ?_
      exact V_iret X hr dX11_twoOf_170 (⟨(0 : Int32), rfl, rfl, (bo_rem0 c_1 c_155)⟩)
    · refine V_iload_n X 2 rfl dX11_twoOf_158 ?_
      refine V_iconst (v := (-1 : Int32)) X (by decide) dX11_twoOf_159 ?_
      refine V_icmp_ne X rfl (show (-1 : Int32).toInt = (-1) from by decide) 167 dX11_twoOf_160 (by decide) (fun c_160 => ?_) (fun c_160 => ?_)
      · refine V_iload_n X 1 rfl dX11_twoOf_167 ?_
        refine V_iload_n X 2 rfl dX11_twoOf_168 ?_
        refine V_irem X (ne0 c_155) dX11_twoOf_169 (fun x_1 ex_1 => ?_)
        exact V_iret X hr dX11_twoOf_170 (⟨x_1, rfl, rfl, (bo_rem c_1 c_155 ex_1)⟩)
      · refine V_iconst (v := (0 : Int32)) X (by decide) dX11_twoOf_163 ?_
        refine V_goto X 170 (by decide) dX11_twoOf_164 ?_
        exact V_iret X hr dX11_twoOf_170 (⟨(0 : Int32), rfl, rfl, (bo_remm c_1 c_160)⟩)
  · refine V_tableIn X 204 1 dX11_twoOf_1 (by omega) (by decide) rfl (by decide) ?_
    refine V_iload_n X 1 rfl dX11_twoOf_204 ?_
    refine V_if_eq X rfl 216 dX11_twoOf_205 (by decide) (fun c_205 => ?_) (fun c_205 => ?_)
    · refine V_iconst (v := (0 : Int32)) X (by decide) dX11_twoOf_216 ?_
      exact V_iret X hr dX11_twoOf_217 (⟨(0 : Int32), rfl, rfl, (bo_and0 c_1 (Or.inl c_205))⟩)
    · refine V_iload_n X 2 rfl dX11_twoOf_208 ?_
      refine V_if_eq X rfl 216 dX11_twoOf_209 (by decide) (fun c_209 => ?_) (fun c_209 => ?_)
      · refine V_iconst (v := (0 : Int32)) X (by decide) dX11_twoOf_216 ?_
        exact V_iret X hr dX11_twoOf_217 (⟨(0 : Int32), rfl, rfl, (bo_and0 c_1 (Or.inr c_209))⟩)
      · refine V_iconst (v := (1 : Int32)) X (by decide) dX11_twoOf_212 ?_
        refine V_goto X 217 (by decide) dX11_twoOf_213 ?_
        exact V_iret X hr dX11_twoOf_217 (⟨(1 : Int32), rfl, rfl, (bo_and1 c_1 c_205 c_209)⟩)
  · exfalso; omega
  · exfalso; omega
  · exfalso; omega
  · refine V_tableIn X 128 5 dX11_twoOf_1 (by omega) (by decide) rfl (by decide) ?_
    refine V_iload_n X 1 rfl dX11_twoOf_128 ?_
    refine V_iload_n X 2 rfl dX11_twoOf_129 ?_
    refine V_imul X dX11_twoOf_130 (fun x_2 ex_2 => ?_)
    exact V_iret X hr dX11_twoOf_131 (⟨x_2, rfl, rfl, (bo_mul c_1 ex_2)⟩)
  · refine V_tableIn X 120 6 dX11_twoOf_1 (by omega) (by decide) rfl (by decide) ?_
    refine V_iload_n X 1 rfl dX11_twoOf_120 ?_
    refine V_iload_n X 2 rfl dX11_twoOf_121 ?_
    refine V_iadd X dX11_twoOf_122 (fun x_3 ex_3 => ?_)
    exact V_iret X hr dX11_twoOf_123 (⟨x_3, rfl, rfl, (bo_add c_1 ex_3)⟩)
  · exfalso; omega
  · refine V_tableIn X 124 8 dX11_twoOf_1 (by omega) (by decide) rfl (by decide) ?_
    refine V_iload_n X 1 rfl dX11_twoOf_124 ?_
    refine V_iload_n X 2 rfl dX11_twoOf_125 ?_
    refine V_isub X dX11_twoOf_126 (fun x_4 ex_4 => ?_)
    exact V_iret X hr dX11_twoOf_127 (⟨x_4, rfl, rfl, (bo_sub c_1 ex_4)⟩)
  · exfalso; omega
  · refine V_tableIn X 132 10 dX11_twoOf_1 (by omega) (by decide) rfl (by decide) ?_
    refine V_iload_n X 2 rfl dX11_twoOf_132 ?_
    refine V_if_ne X rfl 140 dX11_twoOf_133 (by decide) (fun c_133 => ?_) (fun c_133 => ?_)
    · refine V_iload_n X 2 rfl dX11_twoOf_140 ?_
      refine V_iconst (v := (-1 : Int32)) X (by decide) dX11_twoOf_141 ?_
      refine V_icmp_ne X rfl (show (-1 : Int32).toInt = (-1) from by decide) 150 dX11_twoOf_142 (by decide) (fun c_142 => ?_) (fun c_142 => ?_)
      · refine V_iload_n X 1 rfl dX11_twoOf_150 ?_
        refine V_iload_n X 2 rfl dX11_twoOf_151 ?_
        refine V_idiv X (ne0 c_133) dX11_twoOf_152 (fun x_5 ex_5 => ?_)
        exact V_iret X hr dX11_twoOf_153 (⟨x_5, rfl, rfl, (bo_div c_1 c_133 ex_5)⟩)
      · refine V_iload_n X 1 rfl dX11_twoOf_145 ?_
        refine V_ineg X dX11_twoOf_146 (fun x_6 ex_6 => ?_)
        refine V_goto X 153 (by decide) dX11_twoOf_147 ?_
        exact V_iret X hr dX11_twoOf_153 (⟨x_6, rfl, rfl, (bo_divm c_1 c_142 ex_6)⟩)
    · refine V_iconst (v := (0 : Int32)) X (by decide) dX11_twoOf_136 ?_
      refine V_goto X 153 (by decide) dX11_twoOf_137 ?_
      exact V_iret X hr dX11_twoOf_153 (⟨(0 : Int32), rfl, rfl, (bo_div0 c_1 c_133)⟩)
  · exfalso; omega
  · exfalso; omega
  · exfalso; omega
  · exfalso; omega
  · exfalso; omega
  · exfalso; omega
  · exfalso; omega
  · exfalso; omega
  · exfalso; omega
  · exfalso; omega
  · exfalso; omega
  · exfalso; omega
  · refine V_tableIn X 171 23 dX11_twoOf_1 (by omega) (by decide) rfl (by decide) ?_
    refine V_iload_n X 1 rfl dX11_twoOf_171 ?_
    refine V_iload_n X 2 rfl dX11_twoOf_172 ?_
    refine V_icmp_ge X rfl rfl 180 dX11_twoOf_173 (by decide) (fun c_173 => ?_) (fun c_173 => ?_)
    · refine V_iconst (v := (0 : Int32)) X (by decide) dX11_twoOf_180 ?_
      exact V_iret X hr dX11_twoOf_181 (⟨(0 : Int32), rfl, rfl, (bo_lt0 c_1 c_173)⟩)
    · refine V_iconst (v := (1 : Int32)) X (by decide) dX11_twoOf_176 ?_
      refine V_goto X 181 (by decide) dX11_twoOf_177 ?_
      exact V_iret X hr dX11_twoOf_181 (⟨(1 : Int32), rfl, rfl, (bo_lt1 c_1 c_173)⟩)
  · refine V_tableIn X 182 24 dX11_twoOf_1 (by omega) (by decide) rfl (by decide) ?_
    refine V_iload_n X 1 rfl dX11_twoOf_182 ?_
    refine V_iload_n X 2 rfl dX11_twoOf_183 ?_
    refine V_icmp_ne X rfl rfl 191 dX11_twoOf_184 (by decide) (fun c_184 => ?_) (fun c_184 => ?_)
    · refine V_iconst (v := (0 : Int32)) X (by decide) dX11_twoOf_191 ?_
      exact V_iret X hr dX11_twoOf_192 (⟨(0 : Int32), rfl, rfl, (bo_eq0 c_1 c_184)⟩)
    · refine V_iconst (v := (1 : Int32)) X (by decide) dX11_twoOf_187 ?_
      refine V_goto X 192 (by decide) dX11_twoOf_188 ?_
      exact V_iret X hr dX11_twoOf_192 (⟨(1 : Int32), rfl, rfl, (bo_eq1 c_1 c_184)⟩)
  · refine V_tableIn X 193 25 dX11_twoOf_1 (by omega) (by decide) rfl (by decide) ?_
    refine V_iload_n X 1 rfl dX11_twoOf_193 ?_
    refine V_iload_n X 2 rfl dX11_twoOf_194 ?_
    refine V_icmp_le X rfl rfl 202 dX11_twoOf_195 (by decide) (fun c_195 => ?_) (fun c_195 => ?_)
    · refine V_iconst (v := (0 : Int32)) X (by decide) dX11_twoOf_202 ?_
      exact V_iret X hr dX11_twoOf_203 (⟨(0 : Int32), rfl, rfl, (bo_gt0 c_1 c_195)⟩)
    · refine V_iconst (v := (1 : Int32)) X (by decide) dX11_twoOf_198 ?_
      refine V_goto X 203 (by decide) dX11_twoOf_199 ?_
      exact V_iret X hr dX11_twoOf_203 (⟨(1 : Int32), rfl, rfl, (bo_gt1 c_1 c_195)⟩)
  · refine V_tableOut X 218 dX11_twoOf_1 (by omega) (by decide) ?_
    refine V_iload_n X 1 rfl dX11_twoOf_218 ?_
    refine V_if_ne X rfl 226 dX11_twoOf_219 (by decide) (fun c_219 => ?_) (fun c_219 => ?_)
    · refine V_iconst (v := (1 : Int32)) X (by decide) dX11_twoOf_226 ?_
      refine V_goto X 231 (by decide) dX11_twoOf_227 ?_
      exact V_iret X hr dX11_twoOf_231 (⟨(1 : Int32), rfl, rfl, (bo_or1 (show q.toInt = 124 by omega) (Or.inl c_219))⟩)
    · refine V_iload_n X 2 rfl dX11_twoOf_222 ?_
      refine V_if_eq X rfl 230 dX11_twoOf_223 (by decide) (fun c_223 => ?_) (fun c_223 => ?_)
      · refine V_iconst (v := (0 : Int32)) X (by decide) dX11_twoOf_230 ?_
        exact V_iret X hr dX11_twoOf_231 (⟨(0 : Int32), rfl, rfl, (bo_or0 (show q.toInt = 124 by omega) c_219 c_223)⟩)
      · refine V_iconst (v := (1 : Int32)) X (by decide) dX11_twoOf_226 ?_
        refine V_goto X 231 (by decide) dX11_twoOf_227 ?_
        exact V_iret X hr dX11_twoOf_231 (⟨(1 : Int32), rfl, rfl, (bo_or1 (show q.toInt = 124 by omega) (Or.inr c_223))⟩)

theorem in_X11_worked_X11 : ∀ w ∈ wsX110, w ∈ wsX11_worked := fun w h => List.mem_cons_of_mem _ (List.mem_append_right _ h)
set_option maxHeartbeats 4000000 in
set_option maxRecDepth 100000 in
theorem c_X11_worked (l : Launch) (D : va_G) (Y : Nat → ClassId) (m : Nat) (R : Nat → Nat) (v0 : Int32) (v7 : Int32) (v8 : Int32) (v9 : Int32) (v15 : Int32) (v16 : Int32) (v17 : Int32) (v18 : Int32) (v19 : Int32) (v27 : Int32) (v31 : Int32) (v32 : Int32) (v33 : Int32) (v34 : Int32) (v38 : Int32) (v42 : Int32) (v44 : Int32) (a20 : Nat → Int32) (a21 : Nat → Int32) (a25 : Nat → Int32) (a26 : Nat → Int32) (x : Int32) (A_ : Nat) (y : Int32) (E_ : Nat) (seg : List Tok) (v_ : Int32) (tx : x.toInt = ((A_ : Nat) : Int)) (ty : y.toInt = ((E_ : Nat) : Int)) (hE : E_ = A_ + seg.length) (hE2 : E_ ≤ 120) (hseg : ∀ i, i < seg.length → (a20 (A_ + i)).toInt = (seg.getD i (0, 0)).1 ∧ (a21 (A_ + i)).toInt = (seg.getD i (0, 0)).2) (hev : evM a25 seg [] = some [v_]) : Mg l yX11_worked wsX11_worked ({ frames := 1, cells := 0, slots := 0, locals := 22 }) D Y [(m, .inr (10, mF R v0 v7 v8 v9 v15 v16 v17 v18 v19 v27 v31 v32 v33 v34 v38 v42 v44)), ((R 20), .inl (Y 2, 260, .inl a20)), ((R 21), .inl (Y 0, 260, .inl a21)), ((R 25), .inl (Y 0, 6, .inl a25)), ((R 26), .inl (Y 0, 130, .inl a26))] [.ref m, .int (0 : Int32), .int x, .int y] 0 0 (fun vv__ ww__ => (∃ (r : Int32), ∃ (b26 : Nat → Int32), vv__ = some (.int r) ∧ ww__ = [(m, .inr (10, mF R v0 v7 v8 v9 v15 v16 v17 v18 v19 v27 v31 v32 v33 v34 v38 v42 v44)), ((R 20), .inl (Y 2, 260, .inl a20)), ((R 21), .inl (Y 0, 260, .inl a21)), ((R 25), .inl (Y 0, 6, .inl a25)), ((R 26), .inl (Y 0, 130, .inl b26))] ∧ (r = v_))) := by
  refine Mg_of (cc := cX11_worked) (maxL := 7) (ret := (some .int)) (ls0 := [(0, .ref m), (1, .int (0 : Int32)), (2, .int x), (3, .int y)]) RX11 (by decide) rfl rfl rfl (Nat.le_of_ble_eq_true rfl) (fun p__ e__ s__ m__ b__ t__ c__ X hr hn => ?_)
  refine V_iconst (v := (0 : Int32)) X (by decide) dX11_worked_0 ?_
  refine V_istore (ls' := [(4, .int (0 : Int32)), (0, .ref m), (1, .int (0 : Int32)), (2, .int x), (3, .int y)]) X (by decide) rfl dX11_worked_1 ?_
  refine V_sipush (v := (130 : Int32)) X (by decide) dX11_worked_3 ?_
  refine V_iload_n X 2 rfl dX11_worked_6 ?_
  refine V_imulZ X (show (130 : Int32).toInt = 130 from by decide) (show (0 : Int32).toInt = 0 from by decide) (by omega) (by omega) dX11_worked_7 (fun x_1 ex_1 tx_1 => ?_)
  have tx_1 : x_1.toInt = (((130 * 0) : Nat) : Int) := by omega
  obtain rfl : x_1 = (0 : Int32) := ex_1.trans (by decide)
  refine V_iload_n X 3 rfl dX11_worked_8 ?_
  refine V_iaddZ X (show (0 : Int32).toInt = 0 from by decide) tx (by omega) (by omega) dX11_worked_9 (fun x_2 ex_2 tx_2 => ?_)
  have tx_2 : x_2.toInt = (((0 + A_) : Nat) : Int) := by omega
  refine V_istore (ls' := [(5, .int x_2), (4, .int (0 : Int32)), (0, .ref m), (1, .int (0 : Int32)), (2, .int x), (3, .int y)]) X (by decide) rfl dX11_worked_10 ?_
  refine V_ls (ls' := [(0, .ref m), (1, .int (0 : Int32)), (2, .int x), (3, .int y), (4, .int (0 : Int32)), (5, .int x_2)]) [2, 3, 4, 5, 1, 0] rfl ?_
  refine V_to (V_ind6 (fun (i5 : Int32) (k : Nat) (i4 : Int32) (n_ : Nat) (g26 : Nat → Int32) (s : List Int32) => (i5.toInt = ((k : Nat) : Int)) ∧ (i4.toInt = ((n_ : Nat) : Int)) ∧ (A_ ≤ k ∧ k ≤ E_) ∧ (n_ = s.length) ∧ (n_ + A_ ≤ k) ∧ (PIL g26 s) ∧ (evM a25 (seg.drop (k - A_)) s = some [v_])) (fun (i5 : Int32) (k : Nat) (i4 : Int32) (n_ : Nat) (g26 : Nat → Int32) (s : List Int32) => E_ - k) (fun (i5 : Int32) (k : Nat) (i4 : Int32) (n_ : Nat) (g26 : Nat → Int32) (s : List Int32) => [(0, .ref m), (1, .int (0 : Int32)), (2, .int x), (3, .int y), (4, .int i4), (5, .int i5)]) (fun (i5 : Int32) (k : Nat) (i4 : Int32) (n_ : Nat) (g26 : Nat → Int32) (s : List Int32) => [(m, .inr (10, mF R v0 v7 v8 v9 v15 v16 v17 v18 v19 v27 v31 v32 v33 v34 v38 v42 v44)), ((R 20), .inl (Y 2, 260, .inl a20)), ((R 21), .inl (Y 0, 260, .inl a21)), ((R 25), .inl (Y 0, 6, .inl a25)), ((R 26), .inl (Y 0, 130, .inl g26))]) (fun i5 k i4 n_ g26 s hI_12 ih_12 => ?_) x_2 A_ (0 : Int32) 0 a26 [] ?_) rfl rfl rfl rfl
  · obtain ⟨ti5, ti4, hk, hn, hn2, hPl, hevk⟩ := hI_12
    refine V_to (ls' := [(0, .ref m), (1, .int (0 : Int32)), (2, .int x), (3, .int y), (4, .int i4), (5, .int i5)]) (ws' := [(m, .inr (10, mF R v0 v7 v8 v9 v15 v16 v17 v18 v19 v27 v31 v32 v33 v34 v38 v42 v44)), ((R 20), .inl (Y 2, 260, .inl a20)), ((R 21), .inl (Y 0, 260, .inl a21)), ((R 25), .inl (Y 0, 6, .inl a25)), ((R 26), .inl (Y 0, 130, .inl g26))]) ?_ rfl rfl rfl rfl
    refine V_iload X 5 rfl dX11_worked_12 ?_
    refine V_sipush (v := (130 : Int32)) X (by decide) dX11_worked_14 ?_
    refine V_iload_n X 1 rfl dX11_worked_17 ?_
    refine V_imulZ X (show (130 : Int32).toInt = 130 from by decide) (show (0 : Int32).toInt = 0 from by decide) (by omega) (by omega) dX11_worked_18 (fun x_3 ex_3 tx_3 => ?_)
    have tx_3 : x_3.toInt = (((130 * 0) : Nat) : Int) := by omega
    obtain rfl : x_3 = (0 : Int32) := ex_3.trans (by decide)
    refine V_iload_n X 3 rfl dX11_worked_19 ?_
    refine V_iaddZ X (show (0 : Int32).toInt = 0 from by decide) ty (by omega) (by omega) dX11_worked_20 (fun x_4 ex_4 tx_4 => ?_)
    have tx_4 : x_4.toInt = (((0 + E_) : Nat) : Int) := by omega
    refine V_icmp_ge X ti5 tx_4 188 dX11_worked_21 (by decide) (fun c_21 => ?_) (fun c_21 => ?_)
    · have hsv : s = [v_] := by have h9 := hevk; rw [show k - A_ = seg.length by omega, List.drop_length] at h9; exact Option.some.inj h9
      refine V_aload_n X 0 rfl dX11_worked_188 ?_
      refine V_get (C := RX11) (T := TX11) (N := 50) (ci := 10) (v := .ref (R 26)) X in_X11_worked_X11 0 rfl rfl 26 (by decide) (List.mem_of_getElem? (i := 2) rfl) rfl rfl dX11_worked_189 ?_
      refine V_iconst (v := (0 : Int32)) X (by decide) dX11_worked_192 ?_
      refine V_iald X 4 0 rfl (show (0 : Int32).toInt = ((0 : Nat) : Int) from (show (0 : Int32).toInt = 0 from by decide)) (by omega) dX11_worked_193 ?_
      exact V_iret X hr dX11_worked_194 (⟨(g26 0), g26, rfl, rfl, (by have h9 := PIL_top (hsv ▸ hPl); exact h9)⟩)
    · have hevd := hevk
      rw [dr_s (show k - A_ < seg.length by omega)] at hevd
      have hk9 := hseg (k - A_) (by omega)
      rw [show A_ + (k - A_) = k by omega] at hk9
      refine V_aload_n X 0 rfl dX11_worked_24 ?_
      refine V_get (C := RX11) (T := TX11) (N := 50) (ci := 10) (v := .ref (R 20)) X in_X11_worked_X11 0 rfl rfl 20 (by decide) (List.mem_of_getElem? (i := 1) rfl) rfl rfl dX11_worked_25 ?_
      refine V_iload X 5 rfl dX11_worked_28 ?_
      refine V_bald X 1 k rfl ti5 (by omega) dX11_worked_30 ?_
      refine V_istore (ls' := [(6, .int (a20 k)), (0, .ref m), (1, .int (0 : Int32)), (2, .int x), (3, .int y), (4, .int i4), (5, .int i5)]) X (by decide) rfl dX11_worked_31 ?_
      refine V_iload X 0 rfl dX11_worked_33 ?_
      refine V_iconst (v := (1 : Int32)) X (by decide) dX11_worked_35 ?_
      refine V_icmp_eq X rfl (show (1 : Int32).toInt = 1 from by decide) 45 dX11_worked_36 (by decide) (fun c_36 => ?_) (fun c_36 => ?_)
      · have hev2 := ev_1 hevd (by omega)
        rw [← hk9.2, fb_asI] at hev2
        refine V_aload_n X 1 rfl dX11_worked_45 ?_
        refine V_get (C := RX11) (T := TX11) (N := 50) (ci := 10) (v := .ref (R 26)) X in_X11_worked_X11 0 rfl rfl 26 (by decide) (List.mem_of_getElem? (i := 2) rfl) rfl rfl dX11_worked_46 ?_
        refine V_iload X 5 rfl dX11_worked_49 ?_
        refine V_iload X 0 rfl dX11_worked_51 ?_
        refine V_iconst (v := (1 : Int32)) X (by decide) dX11_worked_53 ?_
        refine V_icmp_ne X rfl (show (1 : Int32).toInt = 1 from by decide) 67 dX11_worked_54 (by decide) (fun c_54 => False.elim (by omega)) (fun c_54 => ?_)
        refine V_aload_n X 1 rfl dX11_worked_57 ?_
        refine V_get (C := RX11) (T := TX11) (N := 50) (ci := 10) (v := .ref (R 21)) X in_X11_worked_X11 0 rfl rfl 21 (by decide) (List.mem_of_getElem? (i := 3) rfl) rfl rfl dX11_worked_58 ?_
        refine V_iload X 6 rfl dX11_worked_61 ?_
        refine V_iald X 2 k rfl ti5 (by omega) dX11_worked_63 ?_
        refine V_goto X 79 (by decide) dX11_worked_64 ?_
        refine V_iast (ws' := [(m, .inr (10, mF R v0 v7 v8 v9 v15 v16 v17 v18 v19 v27 v31 v32 v33 v34 v38 v42 v44)), ((R 20), .inl (Y 2, 260, .inl a20)), ((R 21), .inl (Y 0, 260, .inl a21)), ((R 25), .inl (Y 0, 6, .inl a25)), ((R 26), .inl (Y 0, 130, .inl (upd g26 n_ (a21 k))))]) X 4 n_ rfl ti4 (by omega) rfl dX11_worked_79 ?_
        refine V_iincZ X (fun vv_ => [(4, .int vv_), (6, .int (a20 k)), (0, .ref m), (1, .int (0 : Int32)), (2, .int x), (3, .int y), (5, .int i5)]) ti4 (by omega) (by omega) (by decide) 5 rfl (by decide) (fun _ => rfl) dX11_worked_80 (fun x_5 ex_5 tx_5 => ?_)
        have tx_5 : x_5.toInt = (((n_ + 1) : Nat) : Int) := by omega
        refine V_goto X 182 (by decide) dX11_worked_83 ?_
        refine V_iincZ X (fun vv_ => [(5, .int vv_), (4, .int x_5), (6, .int (a20 k)), (0, .ref m), (1, .int (0 : Int32)), (2, .int x), (3, .int y)]) ti5 (by omega) (by omega) (by decide) 6 rfl (by decide) (fun _ => rfl) dX11_worked_182 (fun x_6 ex_6 tx_6 => ?_)
        have tx_6 : x_6.toInt = (((k + 1) : Nat) : Int) := by omega
        refine V_goto X 12 (by decide) dX11_worked_185 ?_
        refine V_ls (ls' := [(0, .ref m), (1, .int (0 : Int32)), (2, .int x), (3, .int y), (4, .int x_5), (5, .int x_6)]) [3, 4, 5, 6, 1, 0] rfl ?_
        exact V_to (ih_12 x_6 (k + 1) x_5 (n_ + 1) (upd g26 n_ (a21 k)) (a21 k :: s) ⟨(by omega), (by omega), (by omega), (by rw [List.length_cons]; omega), (by omega), (PIL_push hPl hn _), (by rw [show k + 1 - A_ = k - A_ + 1 by omega]; exact hev2)⟩ (by omega)) rfl rfl rfl rfl
      · refine V_iload X 0 rfl dX11_worked_39 ?_
        refine V_iconst (v := (2 : Int32)) X (by decide) dX11_worked_41 ?_
        refine V_icmp_ne X rfl (show (2 : Int32).toInt = 2 from by decide) 86 dX11_worked_42 (by decide) (fun c_42 => ?_) (fun c_42 => ?_)
        · refine V_iload X 0 rfl dX11_worked_86 ?_
          refine V_iconst (v := (3 : Int32)) X (by decide) dX11_worked_88 ?_
          refine V_icmp_ne X rfl (show (3 : Int32).toInt = 3 from by decide) 121 dX11_worked_89 (by decide) (fun c_89 => ?_) (fun c_89 => ?_)
          · refine V_iload X 0 rfl dX11_worked_121 ?_
            refine V_iconst (v := (4 : Int32)) X (by decide) dX11_worked_123 ?_
            refine V_icmp_ne X rfl (show (4 : Int32).toInt = 4 from by decide) 149 dX11_worked_124 (by decide) (fun c_124 => ?_) (fun c_124 => ?_)
            · obtain ⟨hlv, b9, a9, s9, hs9, hev2⟩ := ev_5 hevd (by omega) (by omega) (by omega) (by omega)
              have hnn : n_ = s9.length + 2 := by rw [hs9] at hn; simp only [List.length_cons] at hn; omega
              have hb9 : g26 (n_ - 1) = b9 := by have h9 := PIL_top (hs9 ▸ hPl); rw [List.length_cons] at h9; rw [show n_ - 1 = s9.length + 1 by omega]; exact h9
              have ha9 : g26 (n_ - 1 - 1) = a9 := by have h9 := PIL_top (PIL_pop (hs9 ▸ hPl)); rw [show n_ - 1 - 1 = s9.length by omega]; exact h9
              refine V_iincZ X (fun vv_ => [(4, .int vv_), (6, .int (a20 k)), (0, .ref m), (1, .int (0 : Int32)), (2, .int x), (3, .int y), (5, .int i5)]) ti4 (by omega) (by omega) (by decide) 5 rfl (by decide) (fun _ => rfl) dX11_worked_149 (fun x_7 ex_7 tx_7 => ?_)
              have tx_7 : x_7.toInt = (((n_ - 1) : Nat) : Int) := by omega
              refine V_aload_n X 2 rfl dX11_worked_152 ?_
              refine V_get (C := RX11) (T := TX11) (N := 50) (ci := 10) (v := .ref (R 26)) X in_X11_worked_X11 0 rfl rfl 26 (by decide) (List.mem_of_getElem? (i := 2) rfl) rfl rfl dX11_worked_153 ?_
              refine V_iload X 0 rfl dX11_worked_156 ?_
              refine V_iconst (v := (1 : Int32)) X (by decide) dX11_worked_158 ?_
              refine V_isubZ X tx_7 (show (1 : Int32).toInt = 1 from by decide) (by omega) (by omega) dX11_worked_159 (fun x_8 ex_8 tx_8 => ?_)
              have tx_8 : x_8.toInt = (((n_ - 1 - 1) : Nat) : Int) := by omega
              refine V_iload X 1 rfl dX11_worked_160 ?_
              refine V_aload_n X 2 rfl dX11_worked_162 ?_
              refine V_get (C := RX11) (T := TX11) (N := 50) (ci := 10) (v := .ref (R 26)) X in_X11_worked_X11 0 rfl rfl 26 (by decide) (List.mem_of_getElem? (i := 2) rfl) rfl rfl dX11_worked_163 ?_
              refine V_iload X 0 rfl dX11_worked_166 ?_
              refine V_iconst (v := (1 : Int32)) X (by decide) dX11_worked_168 ?_
              refine V_isubZ X tx_7 (show (1 : Int32).toInt = 1 from by decide) (by omega) (by omega) dX11_worked_169 (fun x_9 ex_9 tx_9 => ?_)
              have tx_9 : x_9.toInt = (((n_ - 1 - 1) : Nat) : Int) := by omega
              refine V_iald X 4 (n_ - 1 - 1) rfl tx_9 (by omega) dX11_worked_170 ?_
              refine V_aload_n X 2 rfl dX11_worked_171 ?_
              refine V_get (C := RX11) (T := TX11) (N := 50) (ci := 10) (v := .ref (R 26)) X in_X11_worked_X11 0 rfl rfl 26 (by decide) (List.mem_of_getElem? (i := 2) rfl) rfl rfl dX11_worked_172 ?_
              refine V_iload X 0 rfl dX11_worked_175 ?_
              refine V_iald X 4 (n_ - 1) rfl tx_7 (by omega) dX11_worked_177 ?_
              refine V_callS (wr := [(m, .inr (10, mF R v0 v7 v8 v9 v15 v16 v17 v18 v19 v27 v31 v32 v33 v34 v38 v42 v44)), ((R 20), .inl (Y 2, 260, .inl a20)), ((R 21), .inl (Y 0, 260, .inl a21)), ((R 25), .inl (Y 0, 6, .inl a25)), ((R 26), .inl (Y 0, 130, .inl g26))]) (st := [.int x_8, .ref (R 26)]) X (c_X11_twoOf l D Y (a20 k) (g26 (n_ - 1 - 1)) (g26 (n_ - 1)) (by rw [hk9.1]; exact hlv)) 3 gX11_worked_X11_twoOf rfl (by decide +kernel) ⟨rfl, rfl⟩ ⟨Nat.le_of_ble_eq_true rfl, Nat.le_of_ble_eq_true rfl⟩ [] [0, 1, 2, 3, 4] rfl rfl rfl rfl (by decide) rfl rfl (Nat.le_of_ble_eq_true rfl) ⟨Nat.le_of_ble_eq_true rfl, Nat.le_of_ble_eq_true rfl⟩ dX11_worked_178 (fun v_178 w_178 h_178 => ?_)
              obtain ⟨r_11, rfl, rfl, hhr_12⟩ := h_178
              refine V_to (pc' := 181) (ls' := [(4, .int x_7), (6, .int (a20 k)), (0, .ref m), (1, .int (0 : Int32)), (2, .int x), (3, .int y), (5, .int i5)]) (st' := [.int r_11, .int x_8, .ref (R 26)]) (ws' := [(m, .inr (10, mF R v0 v7 v8 v9 v15 v16 v17 v18 v19 v27 v31 v32 v33 v34 v38 v42 v44)), ((R 20), .inl (Y 2, 260, .inl a20)), ((R 21), .inl (Y 0, 260, .inl a21)), ((R 25), .inl (Y 0, 6, .inl a25)), ((R 26), .inl (Y 0, 130, .inl g26))]) ?_ rfl rfl rfl rfl
              refine V_iast (ws' := [(m, .inr (10, mF R v0 v7 v8 v9 v15 v16 v17 v18 v19 v27 v31 v32 v33 v34 v38 v42 v44)), ((R 20), .inl (Y 2, 260, .inl a20)), ((R 21), .inl (Y 0, 260, .inl a21)), ((R 25), .inl (Y 0, 6, .inl a25)), ((R 26), .inl (Y 0, 130, .inl (upd g26 (n_ - 1 - 1) r_11)))]) X 4 (n_ - 1 - 1) rfl tx_8 (by omega) rfl dX11_worked_181 ?_
              refine V_iincZ X (fun vv_ => [(5, .int vv_), (4, .int x_7), (6, .int (a20 k)), (0, .ref m), (1, .int (0 : Int32)), (2, .int x), (3, .int y)]) ti5 (by omega) (by omega) (by decide) 6 rfl (by decide) (fun _ => rfl) dX11_worked_182 (fun x_13 ex_13 tx_13 => ?_)
              have tx_13 : x_13.toInt = (((k + 1) : Nat) : Int) := by omega
              refine V_goto X 12 (by decide) dX11_worked_185 ?_
              refine V_ls (ls' := [(0, .ref m), (1, .int (0 : Int32)), (2, .int x), (3, .int y), (4, .int x_7), (5, .int x_13)]) [3, 4, 5, 6, 1, 0] rfl ?_
              exact V_to (ih_12 x_13 (k + 1) x_7 (n_ - 1) (upd g26 (n_ - 1 - 1) r_11) (bothL (seg.getD (k - A_) (0, 0)).1 a9 b9 :: s9) ⟨(by omega), (by omega), (by omega), (by rw [hs9] at hn; simp only [List.length_cons] at hn ⊢; omega), (by omega), (by rw [hhr_12, hk9.1, ha9, hb9]; exact PIL_push (PIL_pop (PIL_pop (hs9 ▸ hPl))) (by rw [hs9] at hn; simp only [List.length_cons] at hn; omega) _), (by rw [show k + 1 - A_ = k - A_ + 1 by omega]; exact hev2)⟩ (by omega)) rfl rfl rfl rfl
            · obtain ⟨x9, s9, hs9, hev2⟩ := ev_4 hevd (by omega)
              have hx9 : g26 (n_ - 1) = x9 := by have h9 := PIL_top (hs9 ▸ hPl); rw [hs9] at hn; simp only [List.length_cons] at hn; rw [show n_ - 1 = s9.length by omega]; exact h9
              have hn1 : 1 ≤ n_ := by rw [hs9] at hn; simp only [List.length_cons] at hn; omega
              refine V_aload_n X 1 rfl dX11_worked_127 ?_
              refine V_get (C := RX11) (T := TX11) (N := 50) (ci := 10) (v := .ref (R 26)) X in_X11_worked_X11 0 rfl rfl 26 (by decide) (List.mem_of_getElem? (i := 2) rfl) rfl rfl dX11_worked_128 ?_
              refine V_iload X 5 rfl dX11_worked_131 ?_
              refine V_iconst (v := (1 : Int32)) X (by decide) dX11_worked_133 ?_
              refine V_isubZ X ti4 (show (1 : Int32).toInt = 1 from by decide) (by omega) (by omega) dX11_worked_134 (fun x_14 ex_14 tx_14 => ?_)
              have tx_14 : x_14.toInt = (((n_ - 1) : Nat) : Int) := by omega
              refine V_aload_n X 1 rfl dX11_worked_135 ?_
              refine V_get (C := RX11) (T := TX11) (N := 50) (ci := 10) (v := .ref (R 26)) X in_X11_worked_X11 0 rfl rfl 26 (by decide) (List.mem_of_getElem? (i := 2) rfl) rfl rfl dX11_worked_136 ?_
              refine V_iload X 5 rfl dX11_worked_139 ?_
              refine V_iconst (v := (1 : Int32)) X (by decide) dX11_worked_141 ?_
              refine V_isubZ X ti4 (show (1 : Int32).toInt = 1 from by decide) (by omega) (by omega) dX11_worked_142 (fun x_15 ex_15 tx_15 => ?_)
              have tx_15 : x_15.toInt = (((n_ - 1) : Nat) : Int) := by omega
              refine V_iald X 4 (n_ - 1) rfl tx_15 (by omega) dX11_worked_143 ?_
              refine V_ineg X dX11_worked_144 (fun x_16 ex_16 => ?_)
              refine V_iast (ws' := [(m, .inr (10, mF R v0 v7 v8 v9 v15 v16 v17 v18 v19 v27 v31 v32 v33 v34 v38 v42 v44)), ((R 20), .inl (Y 2, 260, .inl a20)), ((R 21), .inl (Y 0, 260, .inl a21)), ((R 25), .inl (Y 0, 6, .inl a25)), ((R 26), .inl (Y 0, 130, .inl (upd g26 (n_ - 1) x_16)))]) X 4 (n_ - 1) rfl tx_14 (by omega) rfl dX11_worked_145 ?_
              refine V_goto X 182 (by decide) dX11_worked_146 ?_
              refine V_iincZ X (fun vv_ => [(5, .int vv_), (6, .int (a20 k)), (0, .ref m), (1, .int (0 : Int32)), (2, .int x), (3, .int y), (4, .int i4)]) ti5 (by omega) (by omega) (by decide) 6 rfl (by decide) (fun _ => rfl) dX11_worked_182 (fun x_17 ex_17 tx_17 => ?_)
              have tx_17 : x_17.toInt = (((k + 1) : Nat) : Int) := by omega
              refine V_goto X 12 (by decide) dX11_worked_185 ?_
              refine V_ls (ls' := [(0, .ref m), (1, .int (0 : Int32)), (2, .int x), (3, .int y), (4, .int i4), (5, .int x_17)]) [2, 3, 4, 5, 6, 0] rfl ?_
              exact V_to (ih_12 x_17 (k + 1) i4 n_ (upd g26 (n_ - 1) x_16) (-x9 :: s9) ⟨(by omega), (by omega), (by omega), (by rw [hs9] at hn; simp only [List.length_cons] at hn ⊢; omega), (by omega), (by rw [ex_16, hx9]; exact PIL_push (PIL_pop (hs9 ▸ hPl)) (by rw [hs9] at hn; simp only [List.length_cons] at hn; omega) _), (by rw [show k + 1 - A_ = k - A_ + 1 by omega]; exact hev2)⟩ (by omega)) rfl rfl rfl rfl
          · obtain ⟨x9, s9, hs9, hev2⟩ := ev_3 hevd (by omega)
            have hx9 : g26 (n_ - 1) = x9 := by have h9 := PIL_top (hs9 ▸ hPl); rw [hs9] at hn; simp only [List.length_cons] at hn; rw [show n_ - 1 = s9.length by omega]; exact h9
            have hn1 : 1 ≤ n_ := by rw [hs9] at hn; simp only [List.length_cons] at hn; omega
            refine V_aload_n X 1 rfl dX11_worked_92 ?_
            refine V_get (C := RX11) (T := TX11) (N := 50) (ci := 10) (v := .ref (R 26)) X in_X11_worked_X11 0 rfl rfl 26 (by decide) (List.mem_of_getElem? (i := 2) rfl) rfl rfl dX11_worked_93 ?_
            refine V_iload X 5 rfl dX11_worked_96 ?_
            refine V_iconst (v := (1 : Int32)) X (by decide) dX11_worked_98 ?_
            refine V_isubZ X ti4 (show (1 : Int32).toInt = 1 from by decide) (by omega) (by omega) dX11_worked_99 (fun x_18 ex_18 tx_18 => ?_)
            have tx_18 : x_18.toInt = (((n_ - 1) : Nat) : Int) := by omega
            refine V_aload_n X 1 rfl dX11_worked_100 ?_
            refine V_get (C := RX11) (T := TX11) (N := 50) (ci := 10) (v := .ref (R 26)) X in_X11_worked_X11 0 rfl rfl 26 (by decide) (List.mem_of_getElem? (i := 2) rfl) rfl rfl dX11_worked_101 ?_
            refine V_iload X 5 rfl dX11_worked_104 ?_
            refine V_iconst (v := (1 : Int32)) X (by decide) dX11_worked_106 ?_
            refine V_isubZ X ti4 (show (1 : Int32).toInt = 1 from by decide) (by omega) (by omega) dX11_worked_107 (fun x_19 ex_19 tx_19 => ?_)
            have tx_19 : x_19.toInt = (((n_ - 1) : Nat) : Int) := by omega
            refine V_iald X 4 (n_ - 1) rfl tx_19 (by omega) dX11_worked_108 ?_
            refine V_if_ne X rfl 116 dX11_worked_109 (by decide) (fun c_109 => ?_) (fun c_109 => ?_)
            · refine V_iconst (v := (0 : Int32)) X (by decide) dX11_worked_116 ?_
              refine V_iast (ws' := [(m, .inr (10, mF R v0 v7 v8 v9 v15 v16 v17 v18 v19 v27 v31 v32 v33 v34 v38 v42 v44)), ((R 20), .inl (Y 2, 260, .inl a20)), ((R 21), .inl (Y 0, 260, .inl a21)), ((R 25), .inl (Y 0, 6, .inl a25)), ((R 26), .inl (Y 0, 130, .inl (upd g26 (n_ - 1) (0 : Int32))))]) X 4 (n_ - 1) rfl tx_18 (by omega) rfl dX11_worked_117 ?_
              refine V_goto X 182 (by decide) dX11_worked_118 ?_
              refine V_iincZ X (fun vv_ => [(5, .int vv_), (6, .int (a20 k)), (0, .ref m), (1, .int (0 : Int32)), (2, .int x), (3, .int y), (4, .int i4)]) ti5 (by omega) (by omega) (by decide) 6 rfl (by decide) (fun _ => rfl) dX11_worked_182 (fun x_20 ex_20 tx_20 => ?_)
              have tx_20 : x_20.toInt = (((k + 1) : Nat) : Int) := by omega
              refine V_goto X 12 (by decide) dX11_worked_185 ?_
              refine V_ls (ls' := [(0, .ref m), (1, .int (0 : Int32)), (2, .int x), (3, .int y), (4, .int i4), (5, .int x_20)]) [2, 3, 4, 5, 6, 0] rfl ?_
              exact V_to (ih_12 x_20 (k + 1) i4 n_ (upd g26 (n_ - 1) (0 : Int32)) ((if x9.toInt = 0 then 1 else 0) :: s9) ⟨(by omega), (by omega), (by omega), (by rw [hs9] at hn; simp only [List.length_cons] at hn ⊢; omega), (by omega), (by rw [hx9] at c_109; rw [if_neg c_109]; exact PIL_push (PIL_pop (hs9 ▸ hPl)) (by rw [hs9] at hn; simp only [List.length_cons] at hn; omega) _), (by rw [show k + 1 - A_ = k - A_ + 1 by omega]; exact hev2)⟩ (by omega)) rfl rfl rfl rfl
            · refine V_iconst (v := (1 : Int32)) X (by decide) dX11_worked_112 ?_
              refine V_goto X 117 (by decide) dX11_worked_113 ?_
              refine V_iast (ws' := [(m, .inr (10, mF R v0 v7 v8 v9 v15 v16 v17 v18 v19 v27 v31 v32 v33 v34 v38 v42 v44)), ((R 20), .inl (Y 2, 260, .inl a20)), ((R 21), .inl (Y 0, 260, .inl a21)), ((R 25), .inl (Y 0, 6, .inl a25)), ((R 26), .inl (Y 0, 130, .inl (upd g26 (n_ - 1) (1 : Int32))))]) X 4 (n_ - 1) rfl tx_18 (by omega) rfl dX11_worked_117 ?_
              refine V_goto X 182 (by decide) dX11_worked_118 ?_
              refine V_iincZ X (fun vv_ => [(5, .int vv_), (6, .int (a20 k)), (0, .ref m), (1, .int (0 : Int32)), (2, .int x), (3, .int y), (4, .int i4)]) ti5 (by omega) (by omega) (by decide) 6 rfl (by decide) (fun _ => rfl) dX11_worked_182 (fun x_21 ex_21 tx_21 => ?_)
              have tx_21 : x_21.toInt = (((k + 1) : Nat) : Int) := by omega
              refine V_goto X 12 (by decide) dX11_worked_185 ?_
              refine V_ls (ls' := [(0, .ref m), (1, .int (0 : Int32)), (2, .int x), (3, .int y), (4, .int i4), (5, .int x_21)]) [2, 3, 4, 5, 6, 0] rfl ?_
              exact V_to (ih_12 x_21 (k + 1) i4 n_ (upd g26 (n_ - 1) (1 : Int32)) ((if x9.toInt = 0 then 1 else 0) :: s9) ⟨(by omega), (by omega), (by omega), (by rw [hs9] at hn; simp only [List.length_cons] at hn ⊢; omega), (by omega), (by rw [hx9] at c_109; rw [if_pos c_109]; exact PIL_push (PIL_pop (hs9 ▸ hPl)) (by rw [hs9] at hn; simp only [List.length_cons] at hn; omega) _), (by rw [show k + 1 - A_ = k - A_ + 1 by omega]; exact hev2)⟩ (by omega)) rfl rfl rfl rfl
        · obtain ⟨jn, hjn, hj6, hev2⟩ := ev_2 hevd (by omega)
          refine V_aload_n X 1 rfl dX11_worked_45 ?_
          refine V_get (C := RX11) (T := TX11) (N := 50) (ci := 10) (v := .ref (R 26)) X in_X11_worked_X11 0 rfl rfl 26 (by decide) (List.mem_of_getElem? (i := 2) rfl) rfl rfl dX11_worked_46 ?_
          refine V_iload X 5 rfl dX11_worked_49 ?_
          refine V_iload X 0 rfl dX11_worked_51 ?_
          refine V_iconst (v := (1 : Int32)) X (by decide) dX11_worked_53 ?_
          refine V_icmp_ne X rfl (show (1 : Int32).toInt = 1 from by decide) 67 dX11_worked_54 (by decide) (fun c_54 => ?_) (fun c_54 => False.elim (by omega))
          refine V_aload_n X 1 rfl dX11_worked_67 ?_
          refine V_get (C := RX11) (T := TX11) (N := 50) (ci := 10) (v := .ref (R 25)) X in_X11_worked_X11 0 rfl rfl 25 (by decide) (List.mem_of_getElem? (i := 4) rfl) rfl rfl dX11_worked_68 ?_
          refine V_aload_n X 1 rfl dX11_worked_71 ?_
          refine V_get (C := RX11) (T := TX11) (N := 50) (ci := 10) (v := .ref (R 21)) X in_X11_worked_X11 0 rfl rfl 21 (by decide) (List.mem_of_getElem? (i := 3) rfl) rfl rfl dX11_worked_72 ?_
          refine V_iload X 6 rfl dX11_worked_75 ?_
          refine V_iald X 2 k rfl ti5 (by omega) dX11_worked_77 ?_
          refine V_iald X 3 jn rfl (by omega) (by omega) dX11_worked_78 ?_
          refine V_iast (ws' := [(m, .inr (10, mF R v0 v7 v8 v9 v15 v16 v17 v18 v19 v27 v31 v32 v33 v34 v38 v42 v44)), ((R 20), .inl (Y 2, 260, .inl a20)), ((R 21), .inl (Y 0, 260, .inl a21)), ((R 25), .inl (Y 0, 6, .inl a25)), ((R 26), .inl (Y 0, 130, .inl (upd g26 n_ (a25 jn))))]) X 4 n_ rfl ti4 (by omega) rfl dX11_worked_79 ?_
          refine V_iincZ X (fun vv_ => [(4, .int vv_), (6, .int (a20 k)), (0, .ref m), (1, .int (0 : Int32)), (2, .int x), (3, .int y), (5, .int i5)]) ti4 (by omega) (by omega) (by decide) 5 rfl (by decide) (fun _ => rfl) dX11_worked_80 (fun x_22 ex_22 tx_22 => ?_)
          have tx_22 : x_22.toInt = (((n_ + 1) : Nat) : Int) := by omega
          refine V_goto X 182 (by decide) dX11_worked_83 ?_
          refine V_iincZ X (fun vv_ => [(5, .int vv_), (4, .int x_22), (6, .int (a20 k)), (0, .ref m), (1, .int (0 : Int32)), (2, .int x), (3, .int y)]) ti5 (by omega) (by omega) (by decide) 6 rfl (by decide) (fun _ => rfl) dX11_worked_182 (fun x_23 ex_23 tx_23 => ?_)
          have tx_23 : x_23.toInt = (((k + 1) : Nat) : Int) := by omega
          refine V_goto X 12 (by decide) dX11_worked_185 ?_
          refine V_ls (ls' := [(0, .ref m), (1, .int (0 : Int32)), (2, .int x), (3, .int y), (4, .int x_22), (5, .int x_23)]) [3, 4, 5, 6, 1, 0] rfl ?_
          exact V_to (ih_12 x_23 (k + 1) x_22 (n_ + 1) (upd g26 n_ (a25 jn)) (a25 jn :: s) ⟨(by omega), (by omega), (by omega), (by rw [List.length_cons]; omega), (by omega), (PIL_push hPl hn _), (by rw [show k + 1 - A_ = k - A_ + 1 by omega]; exact hev2)⟩ (by omega)) rfl rfl rfl rfl
  · exact ⟨(by omega), (by have h9 : (0 : Int32).toInt = 0 := (show (0 : Int32).toInt = 0 from by decide); omega), (by omega), rfl, (by omega), (fun j hj => absurd hj (Nat.not_lt_zero j)), (by rw [Nat.sub_self]; exact hev)⟩

theorem in_X11_gives_X11 : ∀ w ∈ wsX110, w ∈ wsX11_gives := fun w h => List.mem_cons_of_mem _ (List.mem_append_right _ h)
set_option maxHeartbeats 4000000 in
set_option maxRecDepth 100000 in
theorem c_X11_gives (l : Launch) (D : va_G) (Y : Nat → ClassId) (m : Nat) (R : Nat → Nat) (v0 : Int32) (v7 : Int32) (v8 : Int32) (v9 : Int32) (v15 : Int32) (v16 : Int32) (v17 : Int32) (v18 : Int32) (v19 : Int32) (v27 : Int32) (v31 : Int32) (v32 : Int32) (v33 : Int32) (v34 : Int32) (v38 : Int32) (v42 : Int32) (v44 : Int32) (a20 : Nat → Int32) (a21 : Nat → Int32) (a22 : Nat → Int32) (a23 : Nat → Int32) (a24 : Nat → Int32) (a25 : Nat → Int32) (a26 : Nat → Int32) (ls : List Lin) (hMW : MLW a20 a21 a22 a23 a24 ls) (hOK : OKS ls) : Mg l yX11_gives wsX11_gives ({ frames := 2, cells := 0, slots := 0, locals := 48 }) D Y [(m, .inr (10, mF R v0 v7 v8 v9 v15 v16 v17 v18 v19 v27 v31 v32 v33 v34 v38 v42 v44)), ((R 20), .inl (Y 2, 260, .inl a20)), ((R 21), .inl (Y 0, 260, .inl a21)), ((R 22), .inl (Y 0, 2, .inl a22)), ((R 23), .inl (Y 3, 122, .inl a23)), ((R 24), .inl (Y 3, 122, .inl a24)), ((R 25), .inl (Y 0, 6, .inl a25)), ((R 26), .inl (Y 0, 130, .inl a26))] [.ref m, .int (0 : Int32)] 0 0 (fun vv__ ww__ => (∃ (r : Int32), ∃ (b26 : Nat → Int32), vv__ = some (.int r) ∧ ww__ = [(m, .inr (10, mF R v0 v7 v8 v9 v15 v16 v17 v18 v19 v27 v31 v32 v33 v34 v38 v42 v44)), ((R 20), .inl (Y 2, 260, .inl a20)), ((R 21), .inl (Y 0, 260, .inl a21)), ((R 22), .inl (Y 0, 2, .inl a22)), ((R 23), .inl (Y 3, 122, .inl a23)), ((R 24), .inl (Y 3, 122, .inl a24)), ((R 25), .inl (Y 0, 6, .inl a25)), ((R 26), .inl (Y 0, 130, .inl b26))] ∧ (r = GVL a25 ls))) := by
  refine Mg_of (cc := cX11_gives) (maxL := 4) (ret := (some .int)) (ls0 := [(0, .ref m), (1, .int (0 : Int32))]) RX11 (by decide) rfl rfl rfl (Nat.le_of_ble_eq_true rfl) (fun p__ e__ s__ m__ b__ t__ c__ X hr hn => ?_)
  have hl0 := hMW.1
  have hl1 := hMW.2.1
  have hl2 := hMW.2.2.1
  refine V_iconst (v := (0 : Int32)) X (by decide) dX11_gives_0 ?_
  refine V_istore_n (ls' := [(2, .int (0 : Int32)), (0, .ref m), (1, .int (0 : Int32))]) X (by decide) rfl dX11_gives_1 ?_
  refine V_bipush (v := (61 : Int32)) X (by decide) dX11_gives_2 ?_
  refine V_iload_n X 2 rfl dX11_gives_4 ?_
  refine V_imulZ X (show (61 : Int32).toInt = 61 from by decide) (show (0 : Int32).toInt = 0 from by decide) (by omega) (by omega) dX11_gives_5 (fun x_1 ex_1 tx_1 => ?_)
  have tx_1 : x_1.toInt = (((61 * 0) : Nat) : Int) := by omega
  obtain rfl : x_1 = (0 : Int32) := ex_1.trans (by decide)
  refine V_istore_n (ls' := [(3, .int (0 : Int32)), (2, .int (0 : Int32)), (0, .ref m), (1, .int (0 : Int32))]) X (by decide) rfl dX11_gives_6 ?_
  refine V_ls (ls' := [(0, .ref m), (1, .int (0 : Int32)), (2, .int (0 : Int32)), (3, .int (0 : Int32))]) [2, 3, 1, 0] rfl ?_
  refine V_to (V_ind4 (fun (i3 : Int32) (k : Nat) (i2 : Int32) (g26 : Nat → Int32) => (i3.toInt = ((k : Nat) : Int)) ∧ (i2.toInt = (((mcT (ls.take k)).length : Nat) : Int)) ∧ (k ≤ ls.length) ∧ (GVL a25 (ls.drop k) = GVL a25 ls)) (fun (i3 : Int32) (k : Nat) (i2 : Int32) (g26 : Nat → Int32) => ls.length - k) (fun (i3 : Int32) (k : Nat) (i2 : Int32) (g26 : Nat → Int32) => [(0, .ref m), (1, .int (0 : Int32)), (2, .int i2), (3, .int i3)]) (fun (i3 : Int32) (k : Nat) (i2 : Int32) (g26 : Nat → Int32) => [(m, .inr (10, mF R v0 v7 v8 v9 v15 v16 v17 v18 v19 v27 v31 v32 v33 v34 v38 v42 v44)), ((R 20), .inl (Y 2, 260, .inl a20)), ((R 21), .inl (Y 0, 260, .inl a21)), ((R 22), .inl (Y 0, 2, .inl a22)), ((R 23), .inl (Y 3, 122, .inl a23)), ((R 24), .inl (Y 3, 122, .inl a24)), ((R 25), .inl (Y 0, 6, .inl a25)), ((R 26), .inl (Y 0, 130, .inl g26))]) (fun i3 k i2 g26 hI_7 ih_7 => ?_) (0 : Int32) 0 (0 : Int32) a26 ?_) rfl rfl rfl rfl
  · obtain ⟨ti3, ti2, hk, hG⟩ := hI_7
    refine V_to (ls' := [(0, .ref m), (1, .int (0 : Int32)), (2, .int i2), (3, .int i3)]) (ws' := [(m, .inr (10, mF R v0 v7 v8 v9 v15 v16 v17 v18 v19 v27 v31 v32 v33 v34 v38 v42 v44)), ((R 20), .inl (Y 2, 260, .inl a20)), ((R 21), .inl (Y 0, 260, .inl a21)), ((R 22), .inl (Y 0, 2, .inl a22)), ((R 23), .inl (Y 3, 122, .inl a23)), ((R 24), .inl (Y 3, 122, .inl a24)), ((R 25), .inl (Y 0, 6, .inl a25)), ((R 26), .inl (Y 0, 130, .inl g26))]) ?_ rfl rfl rfl rfl
    refine V_iload_n X 3 rfl dX11_gives_7 ?_
    refine V_bipush (v := (61 : Int32)) X (by decide) dX11_gives_8 ?_
    refine V_iload_n X 1 rfl dX11_gives_10 ?_
    refine V_imulZ X (show (61 : Int32).toInt = 61 from by decide) (show (0 : Int32).toInt = 0 from by decide) (by omega) (by omega) dX11_gives_11 (fun x_2 ex_2 tx_2 => ?_)
    have tx_2 : x_2.toInt = (((61 * 0) : Nat) : Int) := by omega
    obtain rfl : x_2 = (0 : Int32) := ex_2.trans (by decide)
    refine V_aload_n X 0 rfl dX11_gives_12 ?_
    refine V_get (C := RX11) (T := TX11) (N := 50) (ci := 10) (v := .ref (R 22)) X in_X11_gives_X11 0 rfl rfl 22 (by decide) (List.mem_of_getElem? (i := 1) rfl) rfl rfl dX11_gives_13 ?_
    refine V_iload_n X 1 rfl dX11_gives_16 ?_
    refine V_iald X 3 0 rfl (show (0 : Int32).toInt = ((0 : Nat) : Int) from (show (0 : Int32).toInt = 0 from by decide)) (by omega) dX11_gives_17 ?_
    refine V_nm (fun x_3 ex_3 => ?_)
    have tx_3 : x_3.toInt = ((ls.length : Nat) : Int) := by rw [ex_3]; exact hl0
    refine V_iaddZ X (show (0 : Int32).toInt = 0 from by decide) tx_3 (by omega) (by omega) dX11_gives_18 (fun x_4 ex_4 tx_4 => ?_)
    have tx_4 : x_4.toInt = (((0 + ls.length) : Nat) : Int) := by omega
    refine V_icmp_ge X ti3 tx_4 78 dX11_gives_19 (by decide) (fun c_19 => ?_) (fun c_19 => ?_)
    · refine V_iconst (v := (0 : Int32)) X (by decide) dX11_gives_78 ?_
      exact V_iret X hr dX11_gives_79 (⟨(0 : Int32), g26, rfl, rfl, (by rw [← hG, List.drop_eq_nil_of_le (by omega)]; rfl)⟩)
    · have hwk := hMW.2.2.2.2 k (by omega)
      have hle := mTE_le (show k < ls.length by omega)
      have hdk := ls_dr (show k < ls.length by omega)
      have hOk := hOK _ (ls_mem (show k < ls.length by omega))
      rcases hxx : ls.getD k (none, []) with ⟨_ | t9, ts9⟩
      · refine V_aload_n X 0 rfl dX11_gives_22 ?_
        refine V_get (C := RX11) (T := TX11) (N := 50) (ci := 10) (v := .ref (R 23)) X in_X11_gives_X11 0 rfl rfl 23 (by decide) (List.mem_of_getElem? (i := 2) rfl) rfl rfl dX11_gives_23 ?_
        refine V_iload_n X 3 rfl dX11_gives_26 ?_
        refine V_sald X 4 k rfl ti3 (by omega) dX11_gives_27 ?_
        refine V_nm (fun x_5 ex_5 => ?_)
        have tx_5 : x_5.toInt = (((mTE ls k) : Nat) : Int) := by rw [ex_5]; exact hwk.1
        have hq1 : mTE ls k = (mcT (ls.take k)).length := mTE_n hxx
        have hq2 : mLE ls k = (mcT (ls.take k)).length + ts9.length := mLE_n hxx (by omega)
        have hoT : OKT ts9 := by rw [hxx] at hOk; exact hOk
        refine V_iload_n X 2 rfl dX11_gives_28 ?_
        refine V_icmp_eq X tx_5 ti2 47 dX11_gives_29 (by decide) (fun c_29 => ?_) (fun c_29 => False.elim (by omega))
        refine V_aload_n X 0 rfl dX11_gives_47 ?_
        refine V_iload_n X 1 rfl dX11_gives_48 ?_
        refine V_aload_n X 0 rfl dX11_gives_49 ?_
        refine V_get (C := RX11) (T := TX11) (N := 50) (ci := 10) (v := .ref (R 23)) X in_X11_gives_X11 0 rfl rfl 23 (by decide) (List.mem_of_getElem? (i := 2) rfl) rfl rfl dX11_gives_50 ?_
        refine V_iload_n X 3 rfl dX11_gives_53 ?_
        refine V_sald X 4 k rfl ti3 (by omega) dX11_gives_54 ?_
        refine V_nm (fun x_6 ex_6 => ?_)
        have tx_6 : x_6.toInt = (((mTE ls k) : Nat) : Int) := by rw [ex_6]; exact hwk.1
        refine V_aload_n X 0 rfl dX11_gives_55 ?_
        refine V_get (C := RX11) (T := TX11) (N := 50) (ci := 10) (v := .ref (R 24)) X in_X11_gives_X11 0 rfl rfl 24 (by decide) (List.mem_of_getElem? (i := 3) rfl) rfl rfl dX11_gives_56 ?_
        refine V_iload_n X 3 rfl dX11_gives_59 ?_
        refine V_sald X 5 k rfl ti3 (by omega) dX11_gives_60 ?_
        refine V_nm (fun x_7 ex_7 => ?_)
        have tx_7 : x_7.toInt = (((mLE ls k) : Nat) : Int) := by rw [ex_7]; exact hwk.2
        refine V_callV (C := RX11) (wr := [((R 22), .inl (Y 0, 2, .inl a22)), ((R 23), .inl (Y 3, 122, .inl a23)), ((R 24), .inl (Y 3, 122, .inl a24))]) (st := []) X (c_X11_worked l D Y m R v0 v7 v8 v9 v15 v16 v17 v18 v19 v27 v31 v32 v33 v34 v38 v42 v44 a20 a21 a25 g26 x_6 (mTE ls k) x_7 (mLE ls k) (ts9.map mkT) (valM a25 ts9) tx_6 tx_7 (by rw [List.length_map]; omega) (by omega) (fun i hi => by rw [hq1]; exact MLW_n hMW hxx (by omega) (by rw [List.length_map] at hi; exact hi)) (OKT_val hoT a25 [])) 3 gX11_gives_X11_worked rfl (by decide +kernel) ⟨rfl, rfl⟩ ⟨Nat.le_of_ble_eq_true rfl, Nat.le_of_ble_eq_true rfl⟩ [0, 1, 2, 6, 7] [3, 4, 5] rfl rfl rfl rfl (by decide) (ci := 10) rfl rfl 0 rfl rfl rfl (Nat.le_of_ble_eq_true rfl) ⟨Nat.le_of_ble_eq_true rfl, Nat.le_of_ble_eq_true rfl⟩ dX11_gives_61 (fun v_61 w_61 h_61 => ?_)
        obtain ⟨r_9, b26_10, rfl, rfl, hhr_11⟩ := h_61
        refine V_to (pc' := 64) (ls' := [(0, .ref m), (1, .int (0 : Int32)), (2, .int i2), (3, .int i3)]) (st' := [.int r_9]) (ws' := [((R 22), .inl (Y 0, 2, .inl a22)), ((R 23), .inl (Y 3, 122, .inl a23)), ((R 24), .inl (Y 3, 122, .inl a24)), (m, .inr (10, mF R v0 v7 v8 v9 v15 v16 v17 v18 v19 v27 v31 v32 v33 v34 v38 v42 v44)), ((R 20), .inl (Y 2, 260, .inl a20)), ((R 21), .inl (Y 0, 260, .inl a21)), ((R 25), .inl (Y 0, 6, .inl a25)), ((R 26), .inl (Y 0, 130, .inl b26_10))]) ?_ rfl rfl rfl rfl
        refine V_ws (ws' := [(m, .inr (10, mF R v0 v7 v8 v9 v15 v16 v17 v18 v19 v27 v31 v32 v33 v34 v38 v42 v44)), ((R 20), .inl (Y 2, 260, .inl a20)), ((R 21), .inl (Y 0, 260, .inl a21)), ((R 22), .inl (Y 0, 2, .inl a22)), ((R 23), .inl (Y 3, 122, .inl a23)), ((R 24), .inl (Y 3, 122, .inl a24)), ((R 25), .inl (Y 0, 6, .inl a25)), ((R 26), .inl (Y 0, 130, .inl b26_10))]) [3, 4, 5, 0, 1, 2, 6, 7] rfl rfl rfl ?_
        exact V_iret X hr dX11_gives_64 (⟨r_9, b26_10, rfl, rfl, (by rw [← hG, hdk, hxx]; exact hhr_11)⟩)
      · refine V_aload_n X 0 rfl dX11_gives_22 ?_
        refine V_get (C := RX11) (T := TX11) (N := 50) (ci := 10) (v := .ref (R 23)) X in_X11_gives_X11 0 rfl rfl 23 (by decide) (List.mem_of_getElem? (i := 2) rfl) rfl rfl dX11_gives_23 ?_
        refine V_iload_n X 3 rfl dX11_gives_26 ?_
        refine V_sald X 4 k rfl ti3 (by omega) dX11_gives_27 ?_
        refine V_nm (fun x_12 ex_12 => ?_)
        have tx_12 : x_12.toInt = (((mTE ls k) : Nat) : Int) := by rw [ex_12]; exact hwk.1
        have hq1 : mTE ls k = (mcT (ls.take k)).length + t9.length := mTE_t hxx
        have hq2 : mLE ls k = (mcT (ls.take k)).length + t9.length + ts9.length := mLE_t hxx (by omega)
        obtain ⟨hoT1, hoT, hne⟩ : OKT t9 ∧ OKT ts9 ∧ 0 < t9.length := by rw [hxx] at hOk; exact hOk
        refine V_iload_n X 2 rfl dX11_gives_28 ?_
        refine V_icmp_eq X tx_12 ti2 47 dX11_gives_29 (by decide) (fun c_29 => False.elim (by omega)) (fun c_29 => ?_)
        refine V_aload_n X 0 rfl dX11_gives_32 ?_
        refine V_iload_n X 1 rfl dX11_gives_33 ?_
        refine V_iload_n X 2 rfl dX11_gives_34 ?_
        refine V_aload_n X 0 rfl dX11_gives_35 ?_
        refine V_get (C := RX11) (T := TX11) (N := 50) (ci := 10) (v := .ref (R 23)) X in_X11_gives_X11 0 rfl rfl 23 (by decide) (List.mem_of_getElem? (i := 2) rfl) rfl rfl dX11_gives_36 ?_
        refine V_iload_n X 3 rfl dX11_gives_39 ?_
        refine V_sald X 4 k rfl ti3 (by omega) dX11_gives_40 ?_
        refine V_nm (fun x_13 ex_13 => ?_)
        have tx_13 : x_13.toInt = (((mTE ls k) : Nat) : Int) := by rw [ex_13]; exact hwk.1
        refine V_callV (C := RX11) (wr := [((R 22), .inl (Y 0, 2, .inl a22)), ((R 23), .inl (Y 3, 122, .inl a23)), ((R 24), .inl (Y 3, 122, .inl a24))]) (st := []) X (c_X11_worked l D Y m R v0 v7 v8 v9 v15 v16 v17 v18 v19 v27 v31 v32 v33 v34 v38 v42 v44 a20 a21 a25 g26 i2 ((mcT (ls.take k)).length) x_13 (mTE ls k) (t9.map mkT) (valM a25 t9) ti2 tx_13 (by rw [List.length_map]; omega) (by omega) (fun i hi => MLW_t hMW hxx (by omega) (by rw [List.length_map] at hi; exact hi)) (OKT_val hoT1 a25 [])) 3 gX11_gives_X11_worked rfl (by decide +kernel) ⟨rfl, rfl⟩ ⟨Nat.le_of_ble_eq_true rfl, Nat.le_of_ble_eq_true rfl⟩ [0, 1, 2, 6, 7] [3, 4, 5] rfl rfl rfl rfl (by decide) (ci := 10) rfl rfl 0 rfl rfl rfl (Nat.le_of_ble_eq_true rfl) ⟨Nat.le_of_ble_eq_true rfl, Nat.le_of_ble_eq_true rfl⟩ dX11_gives_41 (fun v_41 w_41 h_41 => ?_)
        obtain ⟨r_15, b26_t, rfl, rfl, hvv⟩ := h_41
        refine V_to (pc' := 44) (ls' := [(0, .ref m), (1, .int (0 : Int32)), (2, .int i2), (3, .int i3)]) (st' := [.int r_15]) (ws' := [((R 22), .inl (Y 0, 2, .inl a22)), ((R 23), .inl (Y 3, 122, .inl a23)), ((R 24), .inl (Y 3, 122, .inl a24)), (m, .inr (10, mF R v0 v7 v8 v9 v15 v16 v17 v18 v19 v27 v31 v32 v33 v34 v38 v42 v44)), ((R 20), .inl (Y 2, 260, .inl a20)), ((R 21), .inl (Y 0, 260, .inl a21)), ((R 25), .inl (Y 0, 6, .inl a25)), ((R 26), .inl (Y 0, 130, .inl b26_t))]) ?_ rfl rfl rfl rfl
        refine V_if_eq X rfl 65 dX11_gives_44 (by decide) (fun c_44 => ?_) (fun c_44 => ?_)
        · refine V_aload_n X 0 rfl dX11_gives_65 ?_
          refine V_get (C := RX11) (T := TX11) (N := 50) (ci := 10) (v := .ref (R 24)) X in_X11_gives_X11 3 rfl rfl 24 (by decide) (List.mem_of_getElem? (i := 3) rfl) rfl rfl dX11_gives_66 ?_
          refine V_iload_n X 3 rfl dX11_gives_69 ?_
          refine V_sald X 2 k rfl ti3 (by omega) dX11_gives_70 ?_
          refine V_nm (fun x_18 ex_18 => ?_)
          have tx_18 : x_18.toInt = (((mLE ls k) : Nat) : Int) := by rw [ex_18]; exact hwk.2
          refine V_istore_n (ls' := [(2, .int x_18), (0, .ref m), (1, .int (0 : Int32)), (3, .int i3)]) X (by decide) rfl dX11_gives_71 ?_
          refine V_iincZ X (fun vv_ => [(3, .int vv_), (2, .int x_18), (0, .ref m), (1, .int (0 : Int32))]) ti3 (by omega) (by omega) (by decide) 3 rfl (by decide) (fun _ => rfl) dX11_gives_72 (fun x_19 ex_19 tx_19 => ?_)
          have tx_19 : x_19.toInt = (((k + 1) : Nat) : Int) := by omega
          refine V_goto X 7 (by decide) dX11_gives_75 ?_
          refine V_ls (ls' := [(0, .ref m), (1, .int (0 : Int32)), (2, .int x_18), (3, .int x_19)]) [2, 3, 1, 0] rfl ?_
          refine V_ws (ws' := [(m, .inr (10, mF R v0 v7 v8 v9 v15 v16 v17 v18 v19 v27 v31 v32 v33 v34 v38 v42 v44)), ((R 20), .inl (Y 2, 260, .inl a20)), ((R 21), .inl (Y 0, 260, .inl a21)), ((R 22), .inl (Y 0, 2, .inl a22)), ((R 23), .inl (Y 3, 122, .inl a23)), ((R 24), .inl (Y 3, 122, .inl a24)), ((R 25), .inl (Y 0, 6, .inl a25)), ((R 26), .inl (Y 0, 130, .inl b26_t))]) [3, 4, 5, 0, 1, 2, 6, 7] rfl rfl rfl ?_
          exact V_to (ih_7 x_19 (k + 1) x_18 b26_t ⟨(by omega), (show x_18.toInt = ((mLE ls k : Nat) : Int) by omega), (by omega), (by rw [← hG, hdk, hxx]; show _ = (if (valM a25 t9).toInt = 0 then _ else _); rw [if_pos (by rw [← hvv]; exact c_44)])⟩ (by omega)) rfl rfl rfl rfl
        · refine V_aload_n X 0 rfl dX11_gives_47 ?_
          refine V_iload_n X 1 rfl dX11_gives_48 ?_
          refine V_aload_n X 0 rfl dX11_gives_49 ?_
          refine V_get (C := RX11) (T := TX11) (N := 50) (ci := 10) (v := .ref (R 23)) X in_X11_gives_X11 3 rfl rfl 23 (by decide) (List.mem_of_getElem? (i := 2) rfl) rfl rfl dX11_gives_50 ?_
          refine V_iload_n X 3 rfl dX11_gives_53 ?_
          refine V_sald X 1 k rfl ti3 (by omega) dX11_gives_54 ?_
          refine V_nm (fun x_20 ex_20 => ?_)
          have tx_20 : x_20.toInt = (((mTE ls k) : Nat) : Int) := by rw [ex_20]; exact hwk.1
          refine V_aload_n X 0 rfl dX11_gives_55 ?_
          refine V_get (C := RX11) (T := TX11) (N := 50) (ci := 10) (v := .ref (R 24)) X in_X11_gives_X11 3 rfl rfl 24 (by decide) (List.mem_of_getElem? (i := 3) rfl) rfl rfl dX11_gives_56 ?_
          refine V_iload_n X 3 rfl dX11_gives_59 ?_
          refine V_sald X 2 k rfl ti3 (by omega) dX11_gives_60 ?_
          refine V_nm (fun x_21 ex_21 => ?_)
          have tx_21 : x_21.toInt = (((mLE ls k) : Nat) : Int) := by rw [ex_21]; exact hwk.2
          refine V_callV (C := RX11) (wr := [((R 22), .inl (Y 0, 2, .inl a22)), ((R 23), .inl (Y 3, 122, .inl a23)), ((R 24), .inl (Y 3, 122, .inl a24))]) (st := []) X (c_X11_worked l D Y m R v0 v7 v8 v9 v15 v16 v17 v18 v19 v27 v31 v32 v33 v34 v38 v42 v44 a20 a21 a25 b26_t x_20 (mTE ls k) x_21 (mLE ls k) (ts9.map mkT) (valM a25 ts9) tx_20 tx_21 (by rw [List.length_map]; omega) (by omega) (fun i hi => by rw [hq1]; exact MLW_s hMW hxx (by omega) (by rw [List.length_map] at hi; exact hi)) (OKT_val hoT a25 [])) 3 gX11_gives_X11_worked rfl (by decide +kernel) ⟨rfl, rfl⟩ ⟨Nat.le_of_ble_eq_true rfl, Nat.le_of_ble_eq_true rfl⟩ [3, 4, 5, 6, 7] [0, 1, 2] rfl rfl rfl rfl (by decide) (ci := 10) rfl rfl 0 rfl rfl rfl (Nat.le_of_ble_eq_true rfl) ⟨Nat.le_of_ble_eq_true rfl, Nat.le_of_ble_eq_true rfl⟩ dX11_gives_61 (fun v_61 w_61 h_61 => ?_)
          obtain ⟨r_23, b26_24, rfl, rfl, hhr_25⟩ := h_61
          refine V_to (pc' := 64) (ls' := [(0, .ref m), (1, .int (0 : Int32)), (2, .int i2), (3, .int i3)]) (st' := [.int r_23]) (ws' := [((R 22), .inl (Y 0, 2, .inl a22)), ((R 23), .inl (Y 3, 122, .inl a23)), ((R 24), .inl (Y 3, 122, .inl a24)), (m, .inr (10, mF R v0 v7 v8 v9 v15 v16 v17 v18 v19 v27 v31 v32 v33 v34 v38 v42 v44)), ((R 20), .inl (Y 2, 260, .inl a20)), ((R 21), .inl (Y 0, 260, .inl a21)), ((R 25), .inl (Y 0, 6, .inl a25)), ((R 26), .inl (Y 0, 130, .inl b26_24))]) ?_ rfl rfl rfl rfl
          refine V_ws (ws' := [(m, .inr (10, mF R v0 v7 v8 v9 v15 v16 v17 v18 v19 v27 v31 v32 v33 v34 v38 v42 v44)), ((R 20), .inl (Y 2, 260, .inl a20)), ((R 21), .inl (Y 0, 260, .inl a21)), ((R 22), .inl (Y 0, 2, .inl a22)), ((R 23), .inl (Y 3, 122, .inl a23)), ((R 24), .inl (Y 3, 122, .inl a24)), ((R 25), .inl (Y 0, 6, .inl a25)), ((R 26), .inl (Y 0, 130, .inl b26_24))]) [3, 4, 5, 0, 1, 2, 6, 7] rfl rfl rfl ?_
          exact V_iret X hr dX11_gives_64 (⟨r_23, b26_24, rfl, rfl, (by rw [← hG, hdk, hxx]; show _ = (if (valM a25 t9).toInt = 0 then _ else _); rw [if_neg (by rw [← hvv]; exact c_44)]; exact hhr_25)⟩)
  · exact ⟨(by have h9 : (0 : Int32).toInt = 0 := (show (0 : Int32).toInt = 0 from by decide); omega), (show (0 : Int32).toInt = ((0 : Nat) : Int) by decide), (by omega), rfl⟩
