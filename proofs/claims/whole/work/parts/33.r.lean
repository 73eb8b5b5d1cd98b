
/-! ===== a TEXT, as it is read: bytes as the reader sees them (c), what comes (places, steps) ===== -/
abbrev Tok : Type := Int × Int
abbrev PRs : Type := Nat × Option (List Tok)
def lvC (c : Int) : Int := if c = 124 then 0 else if c = 38 then 1 else if c = 60 ∨ c = 61 ∨ c = 62 then 2 else if c = 43 ∨ c = 45 then 3 else if c = 42 ∨ c = 47 ∨ c = 37 then 4 else -2
def nmC (c : Int) : Int := if c = 97 then 0 else if c = 116 then 1 else if c = 119 then 2 else if c = 114 then 3 else if c = 115 then 4 else if c = 107 then 5 else -1
def dgC (c : Int) : Prop := 48 ≤ c ∧ c ≤ 57
/-- what is seen: e, or no sign at all (-1) where the byte is none of ASCII -/
def PK (x : Int32) (e : Int) : Prop := x.toInt = e ∨ (e = -1 ∧ 128 ≤ x.toInt)
def CHR (fb : Nat → Int32) (L : Nat) (c : Nat → Int) : Prop := ∀ j, (j < L → PK (fb j) (c j)) ∧ (L ≤ j → c j = -1)
def eff (c : Nat → Int) (fa : Int32) (pos : Nat) : Int := if fa.toInt = 0 then c pos else -1
theorem eff_0 {c : Nat → Int} {fa : Int32} {pos : Nat} (h : fa.toInt = 0) : eff c fa pos = c pos := by unfold eff; rw [if_pos h]
theorem eff_f {c : Nat → Int} {fa : Int32} {pos : Nat} (h : fa.toInt ≠ 0) : eff c fa pos = -1 := by unfold eff; rw [if_neg h]
theorem PK_0 {c : Nat → Int} {fa x : Int32} {pos : Nat} (h : PK x (eff c fa pos)) (h0 : fa.toInt = 0) : PK x (c pos) := by rw [eff_0 h0] at h; exact h
theorem PK_dead {c : Nat → Int} {fa x : Int32} {pos : Nat} (h : PK x (eff c fa pos)) (hd : fa.toInt ≠ 0 ∨ (48 ≤ c pos ∧ c pos ≤ 57)) : x.toInt = -1 ∨ 128 ≤ x.toInt ∨ (48 ≤ x.toInt ∧ x.toInt ≤ 57) := by
  unfold PK eff at h
  split at h <;> omega
theorem lvC_dead {v : Int} (h : v = -1 ∨ 128 ≤ v ∨ (48 ≤ v ∧ v ≤ 57)) : lvC v = -2 := by
  unfold lvC
  rw [if_neg (by omega), if_neg (by omega), if_neg (by omega), if_neg (by omega), if_neg (by omega)]
theorem lvC_PK {x : Int32} {e : Int} (h : PK x e) : lvC x.toInt = lvC e := by
  rcases h with h | ⟨h1, h2⟩
  · rw [h]
  · rw [h1, lvC_dead (Or.inr (Or.inl h2)), lvC_dead (Or.inl rfl)]
theorem lvC_big {v : Int} (h : lvC v ≠ -2) : 0 ≤ v ∧ v < 128 := by
  unfold lvC at h
  (repeat' split at h) <;> omega
theorem nmC_PK {x : Int32} {e : Int} (h : PK x e) : nmC x.toInt = nmC e := by
  rcases h with h | ⟨h1, h2⟩
  · rw [h]
  · rw [h1]; unfold nmC
    rw [if_neg (by omega), if_neg (by omega), if_neg (by omega), if_neg (by omega), if_neg (by omega), if_neg (by omega)]; decide
theorem nmC_big {v : Int} (h : 0 ≤ nmC v) : 97 ≤ v ∧ v < 128 ∧ nmC v < 6 := by
  unfold nmC at h ⊢
  (repeat' split at h) <;> omega
theorem CHR_lt {fb : Nat → Int32} {L : Nat} {c : Nat → Int} (h : CHR fb L c) {q : Nat} (h0 : c q ≠ -1) : q < L := by
  rcases Nat.lt_or_ge q L with g | g
  · exact g
  · exact absurd ((h q).2 g) h0
def pDg (c : Nat → Int) : Nat → Nat → Int → Nat × Int
  | 0, q, v => (q, v)
  | n + 1, q, v => if 48 ≤ c q ∧ c q ≤ 57 then pDg c n (q + 1) (v * 10 + c q - 48) else (q, v)
def pFig (c : Nat → Int) (pos : Nat) : PRs := if 48 ≤ c (pDg c 4 pos 0).1 ∧ c (pDg c 4 pos 0).1 ≤ 57 then ((pDg c 4 pos 0).1, none) else ((pDg c 4 pos 0).1, some [(48, (pDg c 4 pos 0).2)])
def pBd (r : PRs) (g : Nat → List Tok → PRs) : PRs := match r.2 with
  | none => (r.1, none)
  | some ts => g r.1 ts
def pLp (c : Nat → Int) (sub : Nat → PRs) (lev : Nat) : Nat → Nat → List Tok → PRs
  | 0, q, ts => (q, some ts)
  | n + 1, q, ts => if lvC (c q) = (lev : Int) then pBd (sub (q + 1)) (fun q2 t2 => if lev = 2 then (q2, some (ts ++ t2 ++ [(c q, 0)])) else pLp c sub lev n q2 (ts ++ t2 ++ [(c q, 0)])) else (q, some ts)
def pTm (c : Nat → Int) (po : Nat → PRs) : Nat → Nat → PRs
  | 0 => po
  | j + 1 => fun pos => pBd (pTm c po j pos) (fun q ts => pLp c (pTm c po j) (4 - j) 120 q ts)
def pPa (c : Nat → Int) (r : PRs) : PRs := pBd r (fun q ts => if c q = 41 then (q + 1, some ts) else (q, none))
def pNe (v : Int) (r : PRs) : PRs := pBd r (fun q ts => (q, some (ts ++ [(v, 0)])))
def pOp (c : Nat → Int) : Nat → Nat → PRs
  | 0 => fun pos => if 48 ≤ c pos ∧ c pos ≤ 57 then pFig c pos else if 0 ≤ nmC (c pos) then (pos + 1, some [(97, nmC (c pos))]) else (pos, none)
  | k + 1 => fun pos => if 48 ≤ c pos ∧ c pos ≤ 57 then pFig c pos else if 0 ≤ nmC (c pos) then (pos + 1, some [(97, nmC (c pos))])
      else if c pos = 40 then pPa c (pTm c (pOp c k) 5 (pos + 1)) else if c pos = 33 ∨ c pos = 45 then pNe (if c pos = 45 then 126 else 33) (pOp c k (pos + 1)) else (pos, none)
theorem pBd_n {r : PRs} {g : Nat → List Tok → PRs} {q : Nat} (h : r = (q, none)) : pBd r g = (q, none) := by rw [h]; rfl
theorem pBd_s {r : PRs} {g : Nat → List Tok → PRs} {q : Nat} {ts : List Tok} (h : r = (q, some ts)) : pBd r g = g q ts := by rw [h]; rfl
theorem pLp_x {c : Nat → Int} {sub : Nat → PRs} {lev n q : Nat} {ts : List Tok} {P : PRs} (h : pLp c sub lev n q ts = P) (hc : n = 0 ∨ lvC (c q) ≠ (lev : Int)) : P = (q, some ts) := by
  cases n with
  | zero => exact h.symm
  | succ n => rw [pLp, if_neg (hc.resolve_left (Nat.succ_ne_zero n))] at h; exact h.symm
theorem pLp_n {c : Nat → Int} {sub : Nat → PRs} {lev n q q2 : Nat} {ts : List Tok} {P : PRs} (h : pLp c sub lev n q ts = P) (hn : 0 < n) (hc : lvC (c q) = (lev : Int)) (hs : sub (q + 1) = (q2, none)) : P = (q2, none) := by
  cases n with
  | zero => omega
  | succ n => rw [pLp, if_pos hc, pBd_n hs] at h; exact h.symm
theorem pLp_2 {c : Nat → Int} {sub : Nat → PRs} {lev n q q2 : Nat} {ts t2 : List Tok} {P : PRs} (h : pLp c sub lev n q ts = P) (hn : 0 < n) (hc : lvC (c q) = (lev : Int)) (hs : sub (q + 1) = (q2, some t2)) (h2 : lev = 2) : P = (q2, some (ts ++ t2 ++ [(c q, 0)])) := by
  cases n with
  | zero => omega
  | succ n => rw [pLp, if_pos hc, pBd_s hs, if_pos h2] at h; exact h.symm
theorem pLp_y {c : Nat → Int} {sub : Nat → PRs} {lev n q q2 : Nat} {ts t2 : List Tok} {P : PRs} (h : pLp c sub lev n q ts = P) (hn : 0 < n) (hc : lvC (c q) = (lev : Int)) (hs : sub (q + 1) = (q2, some t2)) (h2 : lev ≠ 2) : pLp c sub lev (n - 1) q2 (ts ++ t2 ++ [(c q, 0)]) = P := by
  cases n with
  | zero => omega
  | succ n => rw [pLp, if_pos hc, pBd_s hs, if_neg h2] at h; exact h
theorem pDg_s {c : Nat → Int} {n q : Nat} {v : Int} {P : Nat × Int} (h : pDg c n q v = P) (hn : 0 < n) (hd : 48 ≤ c q ∧ c q ≤ 57) : pDg c (n - 1) (q + 1) (v * 10 + c q - 48) = P := by
  cases n with
  | zero => omega
  | succ n => rw [pDg, if_pos hd] at h; exact h
theorem pDg_x {c : Nat → Int} {n q : Nat} {v : Int} {P : Nat × Int} (h : pDg c n q v = P) (hd : n = 0 ∨ ¬ (48 ≤ c q ∧ c q ≤ 57)) : P = (q, v) := by
  cases n with
  | zero => exact h.symm
  | succ n => rw [pDg, if_neg (hd.resolve_left (Nat.succ_ne_zero n))] at h; exact h.symm
/-- the law's steps are t -/
def LC (fs fw : Nat → Int32) (lz : Int32) (t : List Tok) : Prop := lz.toInt = ((t.length : Nat) : Int) ∧ t.length ≤ 128 ∧ ∀ j, j < t.length → (fs j).toInt = (t.getD j (0, 0)).1 ∧ (fw j).toInt = (t.getD j (0, 0)).2
theorem LC_push {fs fw : Nat → Int32} {lz : Int32} {t : List Tok} (h : LC fs fw lz t) (hlt : t.length < 128) {lz2 x y : Int32} {a b : Int} (hz : lz2.toInt = ((t.length + 1 : Nat) : Int)) (hx : x.toInt = a) (hy : y.toInt = b) : LC (upd fs t.length x) (upd fw t.length y) lz2 (t ++ [(a, b)]) := by
  refine ⟨by rw [List.length_append, List.length_singleton]; exact hz, by rw [List.length_append, List.length_singleton]; omega, fun j hj => ?_⟩
  rw [List.length_append, List.length_singleton] at hj
  unfold upd
  by_cases e : j = t.length
  · subst e; rw [if_pos rfl, if_pos rfl, gD_r (Nat.le_refl _), Nat.sub_self]; exact ⟨hx, hy⟩
  · rw [if_neg e, if_neg e, gD_l (by omega)]; exact h.2.2 j (by omega)
theorem LC_any (fs fw : Nat → Int32) {lz : Int32} {n : Nat} (hz : lz.toInt = ((n : Nat) : Int)) (hn : n ≤ 128) : ∃ t, LC fs fw lz t := by
  refine ⟨(List.range n).map fun j => ((fs j).toInt, (fw j).toInt), by rw [List.length_map, List.length_range]; exact hz, by rw [List.length_map, List.length_range]; exact hn, fun j hj => ?_⟩
  rw [List.length_map, List.length_range] at hj
  rw [List.getD_eq_getElem?_getD, List.getElem?_map, List.getElem?_range hj]
  exact ⟨rfl, rfl⟩
theorem LC_lead {fs fw : Nat → Int32} {lz : Int32} {a b : List Tok} {v : Int} (h : LC fs fw lz (a ++ (63, v) :: b)) {x : Int32} {w : Int} (hx : x.toInt = w) : LC fs (upd fw a.length x) lz (a ++ (63, w) :: b) := by
  refine ⟨by rw [h.1, List.length_append, List.length_append]; rfl, by have := h.2.1; rw [List.length_append] at this ⊢; exact this, fun j hj => ?_⟩
  have hj' : j < (a ++ (63, v) :: b).length := by rw [List.length_append] at hj ⊢; exact hj
  have h3 := h.2.2 j hj'
  unfold upd
  rcases Nat.lt_trichotomy j a.length with g | g | g
  · rw [if_neg (by omega), gD_l g]; rw [gD_l g] at h3; exact h3
  · subst g
    rw [if_pos rfl, gD_r (Nat.le_refl _), Nat.sub_self]
    rw [gD_r (Nat.le_refl _), Nat.sub_self] at h3
    exact ⟨h3.1, hx⟩
  · rw [if_neg (by omega), gD_r (by omega)]
    rw [gD_r (by omega)] at h3
    obtain ⟨d, hd⟩ : ∃ d, j - a.length = d + 1 := ⟨j - a.length - 1, by omega⟩
    rw [hd] at h3 ⊢; exact h3
theorem LC_app {t0 t1 t2 : List Tok} : t0 ++ t1 ++ t2 = t0 ++ (t1 ++ t2) := List.append_assoc _ _ _
set_option maxHeartbeats 4000000 in
set_option maxRecDepth 100000 in
theorem c_X5_addT (l : Launch) (D : va_G) (Y : Nat → ClassId) (lw : Nat) (ws_ : Nat) (ww : Nat) (wt : Nat) (wn : Nat) (wg : Nat) (wi : Nat) (lz : Int32) (fs : Nat → Int32) (fw : Nat → Int32) (t0 : List Tok) (x : Int32) (y : Int32) (hLC : LC fs fw lz t0) : Mg l yX5_add wsX5_add ({ frames := 0, cells := 0, slots := 0, locals := 0 }) D Y [(lw, .inr (4, [.ref ws_, .ref ww, .ref wt, .ref wn, .ref wg, .ref wi, .int lz])), (ws_, .inl (Y 0, 128, .inl fs)), (ww, .inl (Y 0, 128, .inl fw))] [.ref lw, .int x, .int y] 0 0 (fun vv__ ww__ => (∃ (lz2 : Int32), ∃ (fs2 : Nat → Int32), ∃ (fw2 : Nat → Int32), ∃ (t1 : List Tok), vv__ = none ∧ ww__ = [(lw, .inr (4, [.ref ws_, .ref ww, .ref wt, .ref wn, .ref wg, .ref wi, .int lz2])), (ws_, .inl (Y 0, 128, .inl fs2)), (ww, .inl (Y 0, 128, .inl fw2))] ∧ (LC fs2 fw2 lz2 t1) ∧ (t0.length < 128 → t1 = t0 ++ [(x.toInt, y.toInt)]))) := by
  refine Mg_of (cc := cX5_add) (maxL := 3) (ret := none) (ls0 := [(0, .ref lw), (1, .int x), (2, .int y)]) RX5 (by decide) rfl rfl rfl (Nat.le_of_ble_eq_true rfl) (fun p__ e__ s__ m__ b__ t__ c__ X hr hn => ?_)
  have hl8 := hLC.2.1
  refine V_aload_n X 0 rfl dX5_add_0 ?_
  refine V_get (C := RX5) (T := TX5) (N := 7) (ci := 4) (v := .int lz) X in_X5_add_X5 0 rfl rfl 6 (by decide) (List.mem_of_getElem? (i := 1) rfl) rfl rfl dX5_add_1 ?_
  refine V_aload_n X 0 rfl dX5_add_4 ?_
  refine V_get (C := RX5) (T := TX5) (N := 7) (ci := 4) (v := .ref ws_) X in_X5_add_X5 0 rfl rfl 0 (by decide) (List.mem_of_getElem? (i := 2) rfl) rfl rfl dX5_add_5 ?_
  refine V_alen (v := (128 : Int32)) X 1 0 rfl rfl rfl dX5_add_8 ?_
  refine V_icmp_ge X hLC.1 (show (128 : Int32).toInt = 128 from by decide) 24 dX5_add_9 (by decide) (fun c_9 => ?_) (fun c_9 => ?_)
  · exact V_vret X hr dX5_add_24 (⟨lz, fs, fw, t0, rfl, rfl, hLC, (by omega)⟩)
  · refine V_aload_n X 0 rfl dX5_add_12 ?_
    refine V_get (C := RX5) (T := TX5) (N := 7) (ci := 4) (v := .int lz) X in_X5_add_X5 0 rfl rfl 6 (by decide) (List.mem_of_getElem? (i := 1) rfl) rfl rfl dX5_add_13 ?_
    refine V_aload_n X 0 rfl dX5_add_16 ?_
    refine V_get (C := RX5) (T := TX5) (N := 7) (ci := 4) (v := .ref ww) X in_X5_add_X5 0 rfl rfl 1 (by decide) (List.mem_of_getElem? (i := 3) rfl) rfl rfl dX5_add_17 ?_
    refine V_alen (v := (128 : Int32)) X 2 0 rfl rfl rfl dX5_add_20 ?_
    refine V_icmp_lt X hLC.1 (show (128 : Int32).toInt = 128 from by decide) 25 dX5_add_21 (by decide) (fun c_21 => ?_) (fun c_21 => ?_)
    · refine V_aload_n X 0 rfl dX5_add_25 ?_
      refine V_get (C := RX5) (T := TX5) (N := 7) (ci := 4) (v := .ref ws_) X in_X5_add_X5 0 rfl rfl 0 (by decide) (List.mem_of_getElem? (i := 2) rfl) rfl rfl dX5_add_26 ?_
      refine V_aload_n X 0 rfl dX5_add_29 ?_
      refine V_get (C := RX5) (T := TX5) (N := 7) (ci := 4) (v := .int lz) X in_X5_add_X5 0 rfl rfl 6 (by decide) (List.mem_of_getElem? (i := 1) rfl) rfl rfl dX5_add_30 ?_
      refine V_iload_n X 1 rfl dX5_add_33 ?_
      refine V_iast (ws' := [(lw, .inr (4, [.ref ws_, .ref ww, .ref wt, .ref wn, .ref wg, .ref wi, .int lz])), (ws_, .inl (Y 0, 128, .inl (upd fs t0.length x))), (ww, .inl (Y 0, 128, .inl fw))]) X 1 t0.length rfl hLC.1 (by omega) rfl dX5_add_34 ?_
      refine V_aload_n X 0 rfl dX5_add_35 ?_
      refine V_get (C := RX5) (T := TX5) (N := 7) (ci := 4) (v := .ref ww) X in_X5_add_X5 0 rfl rfl 1 (by decide) (List.mem_of_getElem? (i := 3) rfl) rfl rfl dX5_add_36 ?_
      refine V_aload_n X 0 rfl dX5_add_39 ?_
      refine V_get (C := RX5) (T := TX5) (N := 7) (ci := 4) (v := .int lz) X in_X5_add_X5 0 rfl rfl 6 (by decide) (List.mem_of_getElem? (i := 1) rfl) rfl rfl dX5_add_40 ?_
      refine V_iload_n X 2 rfl dX5_add_43 ?_
      refine V_iast (ws' := [(lw, .inr (4, [.ref ws_, .ref ww, .ref wt, .ref wn, .ref wg, .ref wi, .int lz])), (ws_, .inl (Y 0, 128, .inl (upd fs t0.length x))), (ww, .inl (Y 0, 128, .inl (upd fw t0.length y)))]) X 2 t0.length rfl hLC.1 (by omega) rfl dX5_add_44 ?_
      refine V_aload_n X 0 rfl dX5_add_45 ?_
      refine V_dup X rfl dX5_add_46 ?_
      refine V_get (C := RX5) (T := TX5) (N := 7) (ci := 4) (v := .int lz) X in_X5_add_X5 0 rfl rfl 6 (by decide) (List.mem_of_getElem? (i := 1) rfl) rfl rfl dX5_add_47 ?_
      refine V_iconst (v := (1 : Int32)) X (by decide) dX5_add_50 ?_
      refine V_iaddZ X hLC.1 (show (1 : Int32).toInt = 1 from by decide) (by omega) (by omega) dX5_add_51 (fun x_1 ex_1 tx_1 => ?_)
      have tx_1 : x_1.toInt = (((t0.length + 1) : Nat) : Int) := by omega
      refine V_put (C := RX5) (T := TX5) (N := 7) (ci := 4) (v := .int x_1) (ty := tyX5 6) (ws' := [(lw, .inr (4, [.ref ws_, .ref ww, .ref wt, .ref wn, .ref wg, .ref wi, .int x_1])), (ws_, .inl (Y 0, 128, .inl (upd fs t0.length x))), (ww, .inl (Y 0, 128, .inl (upd fw t0.length y)))]) X in_X5_add_X5 0 rfl rfl 6 (by decide) (List.mem_of_getElem? (i := 1) rfl) rfl tyX5 tyX5_ok nmX5 rfl (tyX5_ok 6 (by decide)) rfl rfl (Nat.le_of_ble_eq_true rfl) rfl dX5_add_52 ?_
      exact V_vret X hr dX5_add_55 (⟨x_1, (upd fs t0.length x), (upd fw t0.length y), (t0 ++ [(x.toInt, y.toInt)]), rfl, rfl, (by omega), (by omega)⟩)
    · exact V_vret X hr dX5_add_24 (⟨lz, fs, fw, t0, rfl, rfl, hLC, (by omega)⟩)

theorem in_X9_peek_X9 : ∀ w ∈ wsX90, w ∈ wsX9_peek := fun w h => List.mem_cons_of_mem _ (List.mem_append_right _ h)
set_option maxHeartbeats 4000000 in
set_option maxRecDepth 100000 in
theorem c_X9_peek (l : Launch) (D : va_G) (Y : Nat → ClassId) (tp : Nat) (tb : Nat) (lw : Nat) (tl : Int32) (pl : Int32) (fa : Int32) (pos : Nat) (L : Nat) (c : Nat → Int) (fb : Nat → Int32) (ttl : tl.toInt = ((L : Nat) : Int)) (hL : L ≤ 120) (tpl : pl.toInt = ((pos : Nat) : Int)) (hpL : pos ≤ L) (hCH : CHR fb L c) : Mg l yX9_peek wsX9_peek ({ frames := 1, cells := 0, slots := 0, locals := 21 }) D Y [(tp, .inr (8, [.ref tb, .int tl, .ref lw, .int pl, .int fa])), (tb, .inl (Y 0, 120, .inl fb))] [.ref tp] 0 0 (fun vv__ ww__ => (∃ (r : Int32), vv__ = some (.int r) ∧ ww__ = [(tp, .inr (8, [.ref tb, .int tl, .ref lw, .int pl, .int fa])), (tb, .inl (Y 0, 120, .inl fb))] ∧ (PK r (eff c fa pos)))) := by
  refine Mg_of (cc := cX9_peek) (maxL := 1) (ret := (some .int)) (ls0 := [(0, .ref tp)]) RX9 (by decide) rfl rfl rfl (Nat.le_of_ble_eq_true rfl) (fun p__ e__ s__ m__ b__ t__ c__ X hr hn => ?_)
  refine V_aload_n X 0 rfl dX9_peek_0 ?_
  refine V_get (C := RX9) (T := TX9) (N := 5) (ci := 8) (v := .int fa) X in_X9_peek_X9 0 rfl rfl 4 (by decide) (List.mem_of_getElem? (i := 1) rfl) rfl rfl dX9_peek_1 ?_
  refine V_if_ne X rfl 18 dX9_peek_4 (by decide) (fun c_4 => ?_) (fun c_4 => ?_)
  · refine V_iconst (v := (-1 : Int32)) X (by decide) dX9_peek_18 ?_
    refine V_goto X 33 (by decide) dX9_peek_19 ?_
    exact V_iret X hr dX9_peek_33 (⟨(-1 : Int32), rfl, rfl, (Or.inl (by rw [eff_f c_4]; decide))⟩)
  · refine V_aload_n X 0 rfl dX9_peek_7 ?_
    refine V_get (C := RX9) (T := TX9) (N := 5) (ci := 8) (v := .int pl) X in_X9_peek_X9 0 rfl rfl 3 (by decide) (List.mem_of_getElem? (i := 2) rfl) rfl rfl dX9_peek_8 ?_
    refine V_aload_n X 0 rfl dX9_peek_11 ?_
    refine V_get (C := RX9) (T := TX9) (N := 5) (ci := 8) (v := .int tl) X in_X9_peek_X9 0 rfl rfl 1 (by decide) (List.mem_of_getElem? (i := 3) rfl) rfl rfl dX9_peek_12 ?_
    refine V_icmp_lt X tpl ttl 22 dX9_peek_15 (by decide) (fun c_15 => ?_) (fun c_15 => ?_)
    · refine V_aload_n X 0 rfl dX9_peek_22 ?_
      refine V_get (C := RX9) (T := TX9) (N := 5) (ci := 8) (v := .ref tb) X in_X9_peek_X9 0 rfl rfl 0 (by decide) (List.mem_of_getElem? (i := 4) rfl) rfl rfl dX9_peek_23 ?_
      refine V_aload_n X 0 rfl dX9_peek_26 ?_
      refine V_get (C := RX9) (T := TX9) (N := 5) (ci := 8) (v := .int pl) X in_X9_peek_X9 0 rfl rfl 3 (by decide) (List.mem_of_getElem? (i := 2) rfl) rfl rfl dX9_peek_27 ?_
      refine V_callS (wr := [(tp, .inr (8, [.ref tb, .int tl, .ref lw, .int pl, .int fa]))]) (st := []) X (c_X1_at l D Y tb pl pos 120 fb tpl (by omega) (by omega)) 2 gX9_peek_X1_at rfl (by decide +kernel) ⟨rfl, rfl⟩ ⟨Nat.le_of_ble_eq_true rfl, Nat.le_of_ble_eq_true rfl⟩ [1] [0] rfl rfl rfl rfl (by decide) rfl rfl (Nat.le_of_ble_eq_true rfl) ⟨Nat.le_of_ble_eq_true rfl, Nat.le_of_ble_eq_true rfl⟩ dX9_peek_30 (fun v_30 w_30 h_30 => ?_)
      obtain ⟨rfl, rfl⟩ := h_30
      refine V_to (pc' := 33) (ls' := [(0, .ref tp)]) (st' := [.int (fb pos)]) (ws' := [(tp, .inr (8, [.ref tb, .int tl, .ref lw, .int pl, .int fa])), (tb, .inl (Y 0, 120, .inl fb))]) ?_ rfl rfl rfl rfl
      exact V_iret X hr dX9_peek_33 (⟨(fb pos), rfl, rfl, (by rw [eff_0 (by omega)]; exact (hCH pos).1 (by omega))⟩)
    · refine V_iconst (v := (-1 : Int32)) X (by decide) dX9_peek_18 ?_
      refine V_goto X 33 (by decide) dX9_peek_19 ?_
      exact V_iret X hr dX9_peek_33 (⟨(-1 : Int32), rfl, rfl, (Or.inl (by rw [show eff c fa pos = -1 by (unfold eff; split; exact (hCH pos).2 (by omega); rfl)]; decide))⟩)

set_option maxHeartbeats 4000000 in
set_option maxRecDepth 100000 in
theorem c_X9_nameOf (l : Launch) (D : va_G) (Y : Nat → ClassId) (x : Int32) : Mg l yX9_nameOf wsX9_nameOf ({ frames := 0, cells := 0, slots := 0, locals := 0 }) D Y [] [.int x] 0 0 (fun vv__ ww__ => (∃ (r : Int32), vv__ = some (.int r) ∧ ww__ = [] ∧ (r.toInt = nmC x.toInt))) := by
  refine Mg_of (cc := cX9_nameOf) (maxL := 1) (ret := (some .int)) (ls0 := [(0, .int x)]) RX9 (by decide) rfl rfl rfl (Nat.le_of_ble_eq_true rfl) (fun p__ e__ s__ m__ b__ t__ c__ X hr hn => ?_)
  refine V_iload_n X 0 rfl dX9_nameOf_0 ?_
  have t_1 : x.toInt = x.toInt := rfl
  rcases (by omega : x.toInt = 97 ∨ x.toInt = 107 ∨ x.toInt = 114 ∨ x.toInt = 115 ∨ x.toInt = 116 ∨ x.toInt = 119 ∨ (x.toInt ≠ 97 ∧ x.toInt ≠ 107 ∧ x.toInt ≠ 114 ∧ x.toInt ≠ 115 ∧ x.toInt ≠ 116 ∧ x.toInt ≠ 119)) with c_1 | c_1 | c_1 | c_1 | c_1 | c_1 | c_1
  · refine V_lookup X 60 dX9_nameOf_1 (by decide) (by rw [t_1, c_1] <;> decide) (by decide) ?_
    refine V_iconst (v := (0 : Int32)) X (by decide) dX9_nameOf_60 ?_
    exact V_iret X hr dX9_nameOf_61 (⟨(0 : Int32), rfl, rfl, (by rw [c_1]; decide)⟩)
  · refine V_lookup X 70 dX9_nameOf_1 (by decide) (by rw [t_1, c_1] <;> decide) (by decide) ?_
    refine V_iconst (v := (5 : Int32)) X (by decide) dX9_nameOf_70 ?_
    exact V_iret X hr dX9_nameOf_71 (⟨(5 : Int32), rfl, rfl, (by rw [c_1]; decide)⟩)
  · refine V_lookup X 66 dX9_nameOf_1 (by decide) (by rw [t_1, c_1] <;> decide) (by decide) ?_
    refine V_iconst (v := (3 : Int32)) X (by decide) dX9_nameOf_66 ?_
    exact V_iret X hr dX9_nameOf_67 (⟨(3 : Int32), rfl, rfl, (by rw [c_1]; decide)⟩)
  · refine V_lookup X 68 dX9_nameOf_1 (by decide) (by rw [t_1, c_1] <;> decide) (by decide) ?_
    refine V_iconst (v := (4 : Int32)) X (by decide) dX9_nameOf_68 ?_
    exact V_iret X hr dX9_nameOf_69 (⟨(4 : Int32), rfl, rfl, (by rw [c_1]; decide)⟩)
  · refine V_lookup X 62 dX9_nameOf_1 (by decide) (by rw [t_1, c_1] <;> decide) (by decide) ?_
    refine V_iconst (v := (1 : Int32)) X (by decide) dX9_nameOf_62 ?_
    exact V_iret X hr dX9_nameOf_63 (⟨(1 : Int32), rfl, rfl, (by rw [c_1]; decide)⟩)
  · refine V_lookup X 64 dX9_nameOf_1 (by decide) (by rw [t_1, c_1] <;> decide) (by decide) ?_
    refine V_iconst (v := (2 : Int32)) X (by decide) dX9_nameOf_64 ?_
    exact V_iret X hr dX9_nameOf_65 (⟨(2 : Int32), rfl, rfl, (by rw [c_1]; decide)⟩)
  · refine V_lookup X 72 dX9_nameOf_1 (by decide) (lk_none _ _ _ (by intro q hq; simp only [List.mem_cons, List.not_mem_nil, or_false] at hq; rw [t_1]; rcases hq with rfl | rfl | rfl | rfl | rfl | rfl <;> (try simp only []) <;> omega)) (by decide) ?_
    refine V_iconst (v := (-1 : Int32)) X (by decide) dX9_nameOf_72 ?_
    exact V_iret X hr dX9_nameOf_73 (⟨(-1 : Int32), rfl, rfl, (by unfold nmC; rw [if_neg (by omega), if_neg (by omega), if_neg (by omega), if_neg (by omega), if_neg (by omega), if_neg (by omega)]; decide)⟩)

set_option maxHeartbeats 4000000 in
set_option maxRecDepth 100000 in
theorem c_X9_levelOf (l : Launch) (D : va_G) (Y : Nat → ClassId) (x : Int32) : Mg l yX9_levelOf wsX9_levelOf ({ frames := 0, cells := 0, slots := 0, locals := 0 }) D Y [] [.int x] 0 0 (fun vv__ ww__ => (∃ (r : Int32), vv__ = some (.int r) ∧ ww__ = [] ∧ (r.toInt = lvC x.toInt))) := by
  refine Mg_of (cc := cX9_levelOf) (maxL := 1) (ret := (some .int)) (ls0 := [(0, .int x)]) RX9 (by decide) rfl rfl rfl (Nat.le_of_ble_eq_true rfl) (fun p__ e__ s__ m__ b__ t__ c__ X hr hn => ?_)
  refine V_iload_n X 0 rfl dX9_levelOf_0 ?_
  have t_1 : x.toInt = x.toInt := rfl
  rcases (by omega : x.toInt = 37 ∨ x.toInt = 38 ∨ x.toInt = 42 ∨ x.toInt = 43 ∨ x.toInt = 45 ∨ x.toInt = 47 ∨ x.toInt = 60 ∨ x.toInt = 61 ∨ x.toInt = 62 ∨ x.toInt = 124 ∨ (x.toInt ≠ 37 ∧ x.toInt ≠ 38 ∧ x.toInt ≠ 42 ∧ x.toInt ≠ 43 ∧ x.toInt ≠ 45 ∧ x.toInt ≠ 47 ∧ x.toInt ≠ 60 ∧ x.toInt ≠ 61 ∧ x.toInt ≠ 62 ∧ x.toInt ≠ 124)) with c_1 | c_1 | c_1 | c_1 | c_1 | c_1 | c_1 | c_1 | c_1 | c_1 | c_1
  · refine V_lookup X 100 dX9_levelOf_1 (by decide) (by rw [t_1, c_1] <;> decide) (by decide) ?_
    refine V_iconst (v := (4 : Int32)) X (by decide) dX9_levelOf_100 ?_
    exact V_iret X hr dX9_levelOf_101 (⟨(4 : Int32), rfl, rfl, (by rw [c_1]; decide)⟩)
  · refine V_lookup X 94 dX9_levelOf_1 (by decide) (by rw [t_1, c_1] <;> decide) (by decide) ?_
    refine V_iconst (v := (1 : Int32)) X (by decide) dX9_levelOf_94 ?_
    exact V_iret X hr dX9_levelOf_95 (⟨(1 : Int32), rfl, rfl, (by rw [c_1]; decide)⟩)
  · refine V_lookup X 100 dX9_levelOf_1 (by decide) (by rw [t_1, c_1] <;> decide) (by decide) ?_
    refine V_iconst (v := (4 : Int32)) X (by decide) dX9_levelOf_100 ?_
    exact V_iret X hr dX9_levelOf_101 (⟨(4 : Int32), rfl, rfl, (by rw [c_1]; decide)⟩)
  · refine V_lookup X 98 dX9_levelOf_1 (by decide) (by rw [t_1, c_1] <;> decide) (by decide) ?_
    refine V_iconst (v := (3 : Int32)) X (by decide) dX9_levelOf_98 ?_
    exact V_iret X hr dX9_levelOf_99 (⟨(3 : Int32), rfl, rfl, (by rw [c_1]; decide)⟩)
  · refine V_lookup X 98 dX9_levelOf_1 (by decide) (by rw [t_1, c_1] <;> decide) (by decide) ?_
    refine V_iconst (v := (3 : Int32)) X (by decide) dX9_levelOf_98 ?_
    exact V_iret X hr dX9_levelOf_99 (⟨(3 : Int32), rfl, rfl, (by rw [c_1]; decide)⟩)
  · refine V_lookup X 100 dX9_levelOf_1 (by decide) (by rw [t_1, c_1] <;> decide) (by decide) ?_
    refine V_iconst (v := (4 : Int32)) X (by decide) dX9_levelOf_100 ?_
    exact V_iret X hr dX9_levelOf_101 (⟨(4 : Int32), rfl, rfl, (by rw [c_1]; decide)⟩)
  · refine V_lookup X 96 dX9_levelOf_1 (by decide) (by rw [t_1, c_1] <;> decide) (by decide) ?_
    refine V_iconst (v := (2 : Int32)) X (by decide) dX9_levelOf_96 ?_
    exact V_iret X hr dX9_levelOf_97 (⟨(2 : Int32), rfl, rfl, (by rw [c_1]; decide)⟩)
  · refine V_lookup X 96 dX9_levelOf_1 (by decide) (by rw [t_1, c_1] <;> decide) (by decide) ?_
    refine V_iconst (v := (2 : Int32)) X (by decide) dX9_levelOf_96 ?_
    exact V_iret X hr dX9_levelOf_97 (⟨(2 : Int32), rfl, rfl, (by rw [c_1]; decide)⟩)
  · refine V_lookup X 96 dX9_levelOf_1 (by decide) (by rw [t_1, c_1] <;> decide) (by decide) ?_
    refine V_iconst (v := (2 : Int32)) X (by decide) dX9_levelOf_96 ?_
    exact V_iret X hr dX9_levelOf_97 (⟨(2 : Int32), rfl, rfl, (by rw [c_1]; decide)⟩)
  · refine V_lookup X 92 dX9_levelOf_1 (by decide) (by rw [t_1, c_1] <;> decide) (by decide) ?_
    refine V_iconst (v := (0 : Int32)) X (by decide) dX9_levelOf_92 ?_
    exact V_iret X hr dX9_levelOf_93 (⟨(0 : Int32), rfl, rfl, (by rw [c_1]; decide)⟩)
  · refine V_lookup X 102 dX9_levelOf_1 (by decide) (lk_none _ _ _ (by intro q hq; simp only [List.mem_cons, List.not_mem_nil, or_false] at hq; rw [t_1]; rcases hq with rfl | rfl | rfl | rfl | rfl | rfl | rfl | rfl | rfl | rfl <;> (try simp only []) <;> omega)) (by decide) ?_
    refine V_bipush (v := (-2 : Int32)) X (by decide) dX9_levelOf_102 ?_
    exact V_iret X hr dX9_levelOf_104 (⟨(-2 : Int32), rfl, rfl, (by unfold lvC; rw [if_neg (by omega), if_neg (by omega), if_neg (by omega), if_neg (by omega), if_neg (by omega)]; decide)⟩)

theorem in_X9_readNumber_X9 : ∀ w ∈ wsX90, w ∈ wsX9_readNumber := fun w h => List.mem_cons_of_mem _ (List.mem_append_left _ (List.mem_append_right _ h))
set_option maxHeartbeats 4000000 in
set_option maxRecDepth 100000 in
theorem c_X9_readNumber (l : Launch) (D : va_G) (Y : Nat → ClassId) (tp : Nat) (tb : Nat) (lw : Nat) (tl : Int32) (pl : Int32) (fa : Int32) (pos : Nat) (L : Nat) (c : Nat → Int) (ws_ : Nat) (ww : Nat) (wt : Nat) (wn : Nat) (wg : Nat) (wi : Nat) (lz : Int32) (fs : Nat → Int32) (fw : Nat → Int32) (t0 : List Tok) (fb : Nat → Int32) (ttl : tl.toInt = ((L : Nat) : Int)) (hL : L ≤ 120) (tpl : pl.toInt = ((pos : Nat) : Int)) (hpL : pos ≤ L) (hCH : CHR fb L c) (hLC : LC fs fw lz t0) (hfa : fa.toInt = 0) (htp : t0.length ≤ pos) (hdg : 48 ≤ c pos ∧ c pos ≤ 57) : Mg l yX9_readNumber wsX9_readNumber ({ frames := 2, cells := 0, slots := 0, locals := 41 }) D Y [(tp, .inr (8, [.ref tb, .int tl, .ref lw, .int pl, .int fa])), (tb, .inl (Y 0, 120, .inl fb)), (lw, .inr (4, [.ref ws_, .ref ww, .ref wt, .ref wn, .ref wg, .ref wi, .int lz])), (ws_, .inl (Y 0, 128, .inl fs)), (ww, .inl (Y 0, 128, .inl fw))] [.ref tp] 0 0 (fun vv__ ww__ => (∃ (q : Nat), ∃ (pl2 : Int32), ∃ (lz2 : Int32), ∃ (fs2 : Nat → Int32), ∃ (fw2 : Nat → Int32), vv__ = none ∧ ww__ = [(tp, .inr (8, [.ref tb, .int tl, .ref lw, .int pl2, .int fa])), (tb, .inl (Y 0, 120, .inl fb)), (lw, .inr (4, [.ref ws_, .ref ww, .ref wt, .ref wn, .ref wg, .ref wi, .int lz2])), (ws_, .inl (Y 0, 128, .inl fs2)), (ww, .inl (Y 0, 128, .inl fw2))] ∧ (pl2.toInt = ((q : Nat) : Int)) ∧ (q = (pDg c 4 pos 0).1) ∧ (pos + 1 ≤ q ∧ q ≤ L) ∧ (LC fs2 fw2 lz2 (t0 ++ [(48, (pDg c 4 pos 0).2)])))) := by
  refine Mg_of (cc := cX9_readNumber) (maxL := 3) (ret := none) (ls0 := [(0, .ref tp)]) RX9 (by decide) rfl rfl rfl (Nat.le_of_ble_eq_true rfl) (fun p__ e__ s__ m__ b__ t__ c__ X hr hn => ?_)
  refine V_iconst (v := (0 : Int32)) X (by decide) dX9_readNumber_0 ?_
  refine V_istore_n (ls' := [(1, .int (0 : Int32)), (0, .ref tp)]) X (by decide) rfl dX9_readNumber_1 ?_
  refine V_iconst (v := (0 : Int32)) X (by decide) dX9_readNumber_2 ?_
  refine V_istore_n (ls' := [(2, .int (0 : Int32)), (1, .int (0 : Int32)), (0, .ref tp)]) X (by decide) rfl dX9_readNumber_3 ?_
  refine V_ls (ls' := [(0, .ref tp), (1, .int (0 : Int32)), (2, .int (0 : Int32))]) [2, 1, 0] rfl ?_
  refine V_to (V_ind6 (fun (i2 : Int32) (i : Nat) (u1 : Int32) (v : Int) (p3 : Int32) (q : Nat) => (i2.toInt = ((i : Nat) : Int)) ∧ (u1.toInt = v) ∧ (p3.toInt = ((q : Nat) : Int)) ∧ (i ≤ 4) ∧ (pDg c (4 - i) q v = (pDg c 4 pos 0)) ∧ (0 ≤ v ∧ v ≤ 9999 ∧ (i ≤ 3 → v ≤ 999) ∧ (i ≤ 2 → v ≤ 99) ∧ (i ≤ 1 → v ≤ 9) ∧ (i = 0 → v = 0)) ∧ (pos ≤ q ∧ q ≤ L ∧ (i = 0 → q = pos) ∧ (0 < i → pos + 1 ≤ q))) (fun (i2 : Int32) (i : Nat) (u1 : Int32) (v : Int) (p3 : Int32) (q : Nat) => 4 - i) (fun (i2 : Int32) (i : Nat) (u1 : Int32) (v : Int) (p3 : Int32) (q : Nat) => [(0, .ref tp), (1, .int u1), (2, .int i2)]) (fun (i2 : Int32) (i : Nat) (u1 : Int32) (v : Int) (p3 : Int32) (q : Nat) => [(tp, .inr (8, [.ref tb, .int tl, .ref lw, .int p3, .int fa])), (tb, .inl (Y 0, 120, .inl fb)), (lw, .inr (4, [.ref ws_, .ref ww, .ref wt, .ref wn, .ref wg, .ref wi, .int lz])), (ws_, .inl (Y 0, 128, .inl fs)), (ww, .inl (Y 0, 128, .inl fw))]) (fun i2 i u1 v p3 q hI_4 ih_4 => ?_) (0 : Int32) 0 (0 : Int32) 0 pl pos ?_) rfl rfl rfl rfl
  · obtain ⟨ti2, tu1, tp3, hi4, hP, hv, hqb⟩ := hI_4
    refine V_to (ls' := [(0, .ref tp), (1, .int u1), (2, .int i2)]) (ws' := [(tp, .inr (8, [.ref tb, .int tl, .ref lw, .int p3, .int fa])), (tb, .inl (Y 0, 120, .inl fb)), (lw, .inr (4, [.ref ws_, .ref ww, .ref wt, .ref wn, .ref wg, .ref wi, .int lz])), (ws_, .inl (Y 0, 128, .inl fs)), (ww, .inl (Y 0, 128, .inl fw))]) ?_ rfl rfl rfl rfl
    refine V_iload_n X 2 rfl dX9_readNumber_4 ?_
    refine V_iconst (v := (4 : Int32)) X (by decide) dX9_readNumber_5 ?_
    refine V_icmp_ge X ti2 (show (4 : Int32).toInt = 4 from by decide) 56 dX9_readNumber_6 (by decide) (fun c_6 => ?_) (fun c_6 => ?_)
    · have hnd : 4 - i = 0 ∨ ¬ (48 ≤ c q ∧ c q ≤ 57) := Or.inl (by omega)
      have hDx := pDg_x hP hnd
      refine V_aload_n X 0 rfl dX9_readNumber_56 ?_
      refine V_get (C := RX9) (T := TX9) (N := 5) (ci := 8) (v := .ref lw) X in_X9_readNumber_X9 0 rfl rfl 2 (by decide) (List.mem_of_getElem? (i := 2) rfl) rfl rfl dX9_readNumber_57 ?_
      refine V_bipush (v := (48 : Int32)) X (by decide) dX9_readNumber_60 ?_
      refine V_iload_n X 1 rfl dX9_readNumber_62 ?_
      refine V_callV (C := RX5) (wr := [(tp, .inr (8, [.ref tb, .int tl, .ref lw, .int p3, .int fa])), (tb, .inl (Y 0, 120, .inl fb))]) (st := []) X (c_X5_addT l D Y lw ws_ ww wt wn wg wi lz fs fw t0 (48 : Int32) u1 hLC) 2 gX9_readNumber_X5_add rfl (by decide +kernel) ⟨rfl, rfl⟩ ⟨Nat.le_of_ble_eq_true rfl, Nat.le_of_ble_eq_true rfl⟩ [2, 3, 4] [0, 1] rfl rfl rfl rfl (by decide) (ci := 4) rfl rfl 0 rfl rfl rfl (Nat.le_of_ble_eq_true rfl) ⟨Nat.le_of_ble_eq_true rfl, Nat.le_of_ble_eq_true rfl⟩ dX9_readNumber_63 (fun v_63 w_63 h_63 => ?_)
      obtain ⟨lz2_2, fs2_3, fw2_4, t1_5, rfl, rfl, hhLC2_6, hht1_7⟩ := h_63
      refine V_to (pc' := 66) (ls' := [(0, .ref tp), (1, .int u1), (2, .int i2)]) (st' := []) (ws' := [(tp, .inr (8, [.ref tb, .int tl, .ref lw, .int p3, .int fa])), (tb, .inl (Y 0, 120, .inl fb)), (lw, .inr (4, [.ref ws_, .ref ww, .ref wt, .ref wn, .ref wg, .ref wi, .int lz2_2])), (ws_, .inl (Y 0, 128, .inl fs2_3)), (ww, .inl (Y 0, 128, .inl fw2_4))]) ?_ rfl rfl rfl rfl
      have hc_48 : (48 : Int32).toInt = 48 := by decide
      exact V_vret X hr dX9_readNumber_66 (⟨q, p3, lz2_2, fs2_3, fw2_4, rfl, rfl, tp3, (by rw [hDx]), (by have h9 := hnd; refine ⟨?_, hqb.2.1⟩; rcases Nat.eq_zero_or_pos i with h8 | h8; · rw [h8] at h9; have h7 := hqb.2.2.1 h8; rw [h7] at h9; omega; · exact hqb.2.2.2 h8), (by have h9 := hht1_7 (by omega); rw [show (48 : Int32).toInt = 48 from by decide, tu1] at h9; rw [hDx]; show LC _ _ _ (t0 ++ [(48, v)]); rw [← h9]; exact hhLC2_6)⟩)
    · refine V_aload_n X 0 rfl dX9_readNumber_9 ?_
      refine V_callV (C := RX9) (wr := [(lw, .inr (4, [.ref ws_, .ref ww, .ref wt, .ref wn, .ref wg, .ref wi, .int lz])), (ws_, .inl (Y 0, 128, .inl fs)), (ww, .inl (Y 0, 128, .inl fw))]) (st := []) X (c_X9_peek l D Y tp tb lw tl p3 fa q L c fb ttl hL tp3 (by omega) hCH) 0 gX9_readNumber_X9_peek rfl (by decide +kernel) ⟨rfl, rfl⟩ ⟨Nat.le_of_ble_eq_true rfl, Nat.le_of_ble_eq_true rfl⟩ [0, 1] [2, 3, 4] rfl rfl rfl rfl (by decide) (ci := 8) rfl rfl 0 rfl rfl rfl (Nat.le_of_ble_eq_true rfl) ⟨Nat.le_of_ble_eq_true rfl, Nat.le_of_ble_eq_true rfl⟩ dX9_readNumber_10 (fun v_10 w_10 h_10 => ?_)
      obtain ⟨r_9, rfl, rfl, hhpk_10⟩ := h_10
      refine V_to (pc' := 13) (ls' := [(0, .ref tp), (1, .int u1), (2, .int i2)]) (st' := [.int r_9]) (ws' := [(lw, .inr (4, [.ref ws_, .ref ww, .ref wt, .ref wn, .ref wg, .ref wi, .int lz])), (ws_, .inl (Y 0, 128, .inl fs)), (ww, .inl (Y 0, 128, .inl fw)), (tp, .inr (8, [.ref tb, .int tl, .ref lw, .int p3, .int fa])), (tb, .inl (Y 0, 120, .inl fb))]) ?_ rfl rfl rfl rfl
      refine V_bipush (v := (48 : Int32)) X (by decide) dX9_readNumber_13 ?_
      refine V_icmp_lt X rfl (show (48 : Int32).toInt = 48 from by decide) 56 dX9_readNumber_15 (by decide) (fun c_15 => ?_) (fun c_15 => ?_)
      · have hnd : 4 - i = 0 ∨ ¬ (48 ≤ c q ∧ c q ≤ 57) := Or.inr (by have h1 := PK_0 hhpk_10 hfa; unfold PK at h1; omega)
        have hDx := pDg_x hP hnd
        refine V_aload_n X 0 rfl dX9_readNumber_56 ?_
        refine V_get (C := RX9) (T := TX9) (N := 5) (ci := 8) (v := .ref lw) X in_X9_readNumber_X9 3 rfl rfl 2 (by decide) (List.mem_of_getElem? (i := 2) rfl) rfl rfl dX9_readNumber_57 ?_
        refine V_bipush (v := (48 : Int32)) X (by decide) dX9_readNumber_60 ?_
        refine V_iload_n X 1 rfl dX9_readNumber_62 ?_
        refine V_callV (C := RX5) (wr := [(tp, .inr (8, [.ref tb, .int tl, .ref lw, .int p3, .int fa])), (tb, .inl (Y 0, 120, .inl fb))]) (st := []) X (c_X5_addT l D Y lw ws_ ww wt wn wg wi lz fs fw t0 (48 : Int32) u1 hLC) 2 gX9_readNumber_X5_add rfl (by decide +kernel) ⟨rfl, rfl⟩ ⟨Nat.le_of_ble_eq_true rfl, Nat.le_of_ble_eq_true rfl⟩ [0, 1, 2] [3, 4] rfl rfl rfl rfl (by decide) (ci := 4) rfl rfl 0 rfl rfl rfl (Nat.le_of_ble_eq_true rfl) ⟨Nat.le_of_ble_eq_true rfl, Nat.le_of_ble_eq_true rfl⟩ dX9_readNumber_63 (fun v_63 w_63 h_63 => ?_)
        obtain ⟨lz2_12, fs2_13, fw2_14, t1_15, rfl, rfl, hhLC2_16, hht1_17⟩ := h_63
        refine V_to (pc' := 66) (ls' := [(0, .ref tp), (1, .int u1), (2, .int i2)]) (st' := []) (ws' := [(tp, .inr (8, [.ref tb, .int tl, .ref lw, .int p3, .int fa])), (tb, .inl (Y 0, 120, .inl fb)), (lw, .inr (4, [.ref ws_, .ref ww, .ref wt, .ref wn, .ref wg, .ref wi, .int lz2_12])), (ws_, .inl (Y 0, 128, .inl fs2_13)), (ww, .inl (Y 0, 128, .inl fw2_14))]) ?_ rfl rfl rfl rfl
        have hc_48 : (48 : Int32).toInt = 48 := by decide
        exact V_vret X hr dX9_readNumber_66 (⟨q, p3, lz2_12, fs2_13, fw2_14, rfl, rfl, tp3, (by rw [hDx]), (by have h9 := hnd; refine ⟨?_, hqb.2.1⟩; rcases Nat.eq_zero_or_pos i with h8 | h8; · rw [h8] at h9; have h7 := hqb.2.2.1 h8; rw [h7] at h9; omega; · exact hqb.2.2.2 h8), (by have h9 := hht1_17 (by omega); rw [show (48 : Int32).toInt = 48 from by decide, tu1] at h9; rw [hDx]; show LC _ _ _ (t0 ++ [(48, v)]); rw [← h9]; exact hhLC2_16)⟩)
      · refine V_aload_n X 0 rfl dX9_readNumber_18 ?_
        refine V_callV (C := RX9) (wr := [(lw, .inr (4, [.ref ws_, .ref ww, .ref wt, .ref wn, .ref wg, .ref wi, .int lz])), (ws_, .inl (Y 0, 128, .inl fs)), (ww, .inl (Y 0, 128, .inl fw))]) (st := []) X (c_X9_peek l D Y tp tb lw tl p3 fa q L c fb ttl hL tp3 (by omega) hCH) 0 gX9_readNumber_X9_peek rfl (by decide +kernel) ⟨rfl, rfl⟩ ⟨Nat.le_of_ble_eq_true rfl, Nat.le_of_ble_eq_true rfl⟩ [3, 4] [0, 1, 2] rfl rfl rfl rfl (by decide) (ci := 8) rfl rfl 0 rfl rfl rfl (Nat.le_of_ble_eq_true rfl) ⟨Nat.le_of_ble_eq_true rfl, Nat.le_of_ble_eq_true rfl⟩ dX9_readNumber_19 (fun v_19 w_19 h_19 => ?_)
        obtain ⟨r_19, rfl, rfl, hhpk_20⟩ := h_19
        refine V_to (pc' := 22) (ls' := [(0, .ref tp), (1, .int u1), (2, .int i2)]) (st' := [.int r_19]) (ws' := [(lw, .inr (4, [.ref ws_, .ref ww, .ref wt, .ref wn, .ref wg, .ref wi, .int lz])), (ws_, .inl (Y 0, 128, .inl fs)), (ww, .inl (Y 0, 128, .inl fw)), (tp, .inr (8, [.ref tb, .int tl, .ref lw, .int p3, .int fa])), (tb, .inl (Y 0, 120, .inl fb))]) ?_ rfl rfl rfl rfl
        refine V_bipush (v := (57 : Int32)) X (by decide) dX9_readNumber_22 ?_
        refine V_icmp_gt X rfl (show (57 : Int32).toInt = 57 from by decide) 56 dX9_readNumber_24 (by decide) (fun c_24 => ?_) (fun c_24 => ?_)
        · have hnd : 4 - i = 0 ∨ ¬ (48 ≤ c q ∧ c q ≤ 57) := Or.inr (by have h1 := PK_0 hhpk_20 hfa; unfold PK at h1; omega)
          have hDx := pDg_x hP hnd
          refine V_aload_n X 0 rfl dX9_readNumber_56 ?_
          refine V_get (C := RX9) (T := TX9) (N := 5) (ci := 8) (v := .ref lw) X in_X9_readNumber_X9 3 rfl rfl 2 (by decide) (List.mem_of_getElem? (i := 2) rfl) rfl rfl dX9_readNumber_57 ?_
          refine V_bipush (v := (48 : Int32)) X (by decide) dX9_readNumber_60 ?_
          refine V_iload_n X 1 rfl dX9_readNumber_62 ?_
          refine V_callV (C := RX5) (wr := [(tp, .inr (8, [.ref tb, .int tl, .ref lw, .int p3, .int fa])), (tb, .inl (Y 0, 120, .inl fb))]) (st := []) X (c_X5_addT l D Y lw ws_ ww wt wn wg wi lz fs fw t0 (48 : Int32) u1 hLC) 2 gX9_readNumber_X5_add rfl (by decide +kernel) ⟨rfl, rfl⟩ ⟨Nat.le_of_ble_eq_true rfl, Nat.le_of_ble_eq_true rfl⟩ [0, 1, 2] [3, 4] rfl rfl rfl rfl (by decide) (ci := 4) rfl rfl 0 rfl rfl rfl (Nat.le_of_ble_eq_true rfl) ⟨Nat.le_of_ble_eq_true rfl, Nat.le_of_ble_eq_true rfl⟩ dX9_readNumber_63 (fun v_63 w_63 h_63 => ?_)
          obtain ⟨lz2_22, fs2_23, fw2_24, t1_25, rfl, rfl, hhLC2_26, hht1_27⟩ := h_63
          refine V_to (pc' := 66) (ls' := [(0, .ref tp), (1, .int u1), (2, .int i2)]) (st' := []) (ws' := [(tp, .inr (8, [.ref tb, .int tl, .ref lw, .int p3, .int fa])), (tb, .inl (Y 0, 120, .inl fb)), (lw, .inr (4, [.ref ws_, .ref ww, .ref wt, .ref wn, .ref wg, .ref wi, .int lz2_22])), (ws_, .inl (Y 0, 128, .inl fs2_23)), (ww, .inl (Y 0, 128, .inl fw2_24))]) ?_ rfl rfl rfl rfl
          have hc_48 : (48 : Int32).toInt = 48 := by decide
          exact V_vret X hr dX9_readNumber_66 (⟨q, p3, lz2_22, fs2_23, fw2_24, rfl, rfl, tp3, (by rw [hDx]), (by have h9 := hnd; refine ⟨?_, hqb.2.1⟩; rcases Nat.eq_zero_or_pos i with h8 | h8; · rw [h8] at h9; have h7 := hqb.2.2.1 h8; rw [h7] at h9; omega; · exact hqb.2.2.2 h8), (by have h9 := hht1_27 (by omega); rw [show (48 : Int32).toInt = 48 from by decide, tu1] at h9; rw [hDx]; show LC _ _ _ (t0 ++ [(48, v)]); rw [← h9]; exact hhLC2_26)⟩)
        · have hdq : 48 ≤ c q ∧ c q ≤ 57 := by have h1 := PK_0 hhpk_10 hfa; have h2 := PK_0 hhpk_20 hfa; unfold PK at h1 h2; omega
          have hqL := CHR_lt hCH (show c q ≠ -1 by omega)
          refine V_iload_n X 1 rfl dX9_readNumber_27 ?_
          refine V_bipush (v := (10 : Int32)) X (by decide) dX9_readNumber_28 ?_
          refine V_imulZ X tu1 (show (10 : Int32).toInt = 10 from by decide) (by omega) (by omega) dX9_readNumber_30 (fun x_28 ex_28 tx_28 => ?_)
          refine V_aload_n X 0 rfl dX9_readNumber_31 ?_
          refine V_callV (C := RX9) (wr := [(lw, .inr (4, [.ref ws_, .ref ww, .ref wt, .ref wn, .ref wg, .ref wi, .int lz])), (ws_, .inl (Y 0, 128, .inl fs)), (ww, .inl (Y 0, 128, .inl fw))]) (st := [.int x_28]) X (c_X9_peek l D Y tp tb lw tl p3 fa q L c fb ttl hL tp3 (by omega) hCH) 0 gX9_readNumber_X9_peek rfl (by decide +kernel) ⟨rfl, rfl⟩ ⟨Nat.le_of_ble_eq_true rfl, Nat.le_of_ble_eq_true rfl⟩ [3, 4] [0, 1, 2] rfl rfl rfl rfl (by decide) (ci := 8) rfl rfl 0 rfl rfl rfl (Nat.le_of_ble_eq_true rfl) ⟨Nat.le_of_ble_eq_true rfl, Nat.le_of_ble_eq_true rfl⟩ dX9_readNumber_32 (fun v_32 w_32 h_32 => ?_)
          obtain ⟨r_30, rfl, rfl, hhpk_31⟩ := h_32
          refine V_to (pc' := 35) (ls' := [(0, .ref tp), (1, .int u1), (2, .int i2)]) (st' := [.int r_30, .int x_28]) (ws' := [(lw, .inr (4, [.ref ws_, .ref ww, .ref wt, .ref wn, .ref wg, .ref wi, .int lz])), (ws_, .inl (Y 0, 128, .inl fs)), (ww, .inl (Y 0, 128, .inl fw)), (tp, .inr (8, [.ref tb, .int tl, .ref lw, .int p3, .int fa])), (tb, .inl (Y 0, 120, .inl fb))]) ?_ rfl rfl rfl rfl
          have hk3 : r_30.toInt = c q := by have h9 := PK_0 hhpk_31 hfa; unfold PK at h9; omega
          refine V_iaddZ X rfl rfl (by omega) (by omega) dX9_readNumber_35 (fun x_32 ex_32 tx_32 => ?_)
          refine V_bipush (v := (48 : Int32)) X (by decide) dX9_readNumber_36 ?_
          refine V_isubZ X rfl (show (48 : Int32).toInt = 48 from by decide) (by omega) (by omega) dX9_readNumber_38 (fun x_33 ex_33 tx_33 => ?_)
          refine V_istore_n (ls' := [(1, .int x_33), (0, .ref tp), (2, .int i2)]) X (by decide) rfl dX9_readNumber_39 ?_
          refine V_aload_n X 1 rfl dX9_readNumber_40 ?_
          refine V_dup X rfl dX9_readNumber_41 ?_
          refine V_get (C := RX9) (T := TX9) (N := 5) (ci := 8) (v := .int p3) X in_X9_readNumber_X9 3 rfl rfl 3 (by decide) (List.mem_of_getElem? (i := 1) rfl) rfl rfl dX9_readNumber_42 ?_
          refine V_iconst (v := (1 : Int32)) X (by decide) dX9_readNumber_45 ?_
          refine V_iaddZ X tp3 (show (1 : Int32).toInt = 1 from by decide) (by omega) (by omega) dX9_readNumber_46 (fun x_34 ex_34 tx_34 => ?_)
          have tx_34 : x_34.toInt = (((q + 1) : Nat) : Int) := by omega
          refine V_put (C := RX9) (T := TX9) (N := 5) (ci := 8) (v := .int x_34) (ty := tyX9 3) (ws' := [(lw, .inr (4, [.ref ws_, .ref ww, .ref wt, .ref wn, .ref wg, .ref wi, .int lz])), (ws_, .inl (Y 0, 128, .inl fs)), (ww, .inl (Y 0, 128, .inl fw)), (tp, .inr (8, [.ref tb, .int tl, .ref lw, .int x_34, .int fa])), (tb, .inl (Y 0, 120, .inl fb))]) X in_X9_readNumber_X9 3 rfl rfl 3 (by decide) (List.mem_of_getElem? (i := 1) rfl) rfl tyX9 tyX9_ok nmX9 rfl (tyX9_ok 3 (by decide)) rfl rfl (Nat.le_of_ble_eq_true rfl) rfl dX9_readNumber_47 ?_
          refine V_iincZ X (fun vv_ => [(2, .int vv_), (1, .int x_33), (0, .ref tp)]) ti2 (by omega) (by omega) (by decide) 2 rfl (by decide) (fun _ => rfl) dX9_readNumber_50 (fun x_35 ex_35 tx_35 => ?_)
          have tx_35 : x_35.toInt = (((i + 1) : Nat) : Int) := by omega
          refine V_goto X 4 (by decide) dX9_readNumber_53 ?_
          refine V_ls (ls' := [(0, .ref tp), (1, .int x_33), (2, .int x_35)]) [2, 1, 0] rfl ?_
          refine V_ws (ws' := [(tp, .inr (8, [.ref tb, .int tl, .ref lw, .int x_34, .int fa])), (tb, .inl (Y 0, 120, .inl fb)), (lw, .inr (4, [.ref ws_, .ref ww, .ref wt, .ref wn, .ref wg, .ref wi, .int lz])), (ws_, .inl (Y 0, 128, .inl fs)), (ww, .inl (Y 0, 128, .inl fw))]) [3, 4, 0, 1, 2] rfl rfl rfl ?_
          exact V_to (ih_4 x_35 (i + 1) x_33 (v * 10 + c q - 48) x_34 (q + 1) ⟨(by omega), (by omega), (by omega), (by omega), (by rw [show 4 - (i + 1) = (4 - i) - 1 by omega]; exact pDg_s hP (by omega) hdq), (by omega), (by omega)⟩ (by omega)) rfl rfl rfl rfl
  · exact ⟨(by have h9 : (0 : Int32).toInt = 0 := (show (0 : Int32).toInt = 0 from by decide); omega), (by decide), tpl, (by omega), rfl, (by omega), (by omega)⟩



set_option maxHeartbeats 4000000 in
set_option maxRecDepth 100000 in
theorem c_X9_readTerms_0 (l : Launch) (D : va_G) (Y : Nat → ClassId) (tp : Nat) (tb : Nat) (lw : Nat) (tl : Int32) (pl : Int32) (fa : Int32) (pos : Nat) (L : Nat) (c : Nat → Int) (ws_ : Nat) (ww : Nat) (wt : Nat) (wn : Nat) (wg : Nat) (wi : Nat) (lz : Int32) (fs : Nat → Int32) (fw : Nat → Int32) (t0 : List Tok) (fb : Nat → Int32) (k : Nat) (lv_ : Int32) (lev : Nat) (op_ : Int32) (opn : Nat) (ttl : tl.toInt = ((L : Nat) : Int)) (hL : L ≤ 120) (tpl : pl.toInt = ((pos : Nat) : Int)) (hpL : pos ≤ L) (hCH : CHR fb L c) (hLC : LC fs fw lz t0) (hfa : fa.toInt = 0) (htp : t0.length ≤ pos) (top_ : op_.toInt = ((opn : Nat) : Int)) (hok : opn + k = 6) (tlv_ : lv_.toInt = ((lev : Nat) : Int)) (hlj : lev + 0 = 5) (ihO : ∀ (l : Launch) (D : va_G) (Y : Nat → ClassId) (tp : Nat) (tb : Nat) (lw : Nat) (tl : Int32) (pl : Int32) (fa : Int32) (pos : Nat) (L : Nat) (c : Nat → Int) (ws_ : Nat) (ww : Nat) (wt : Nat) (wn : Nat) (wg : Nat) (wi : Nat) (lz : Int32) (fs : Nat → Int32) (fw : Nat → Int32) (t0 : List Tok) (fb : Nat → Int32) (op_ : Int32) (opn : Nat) (ttl : tl.toInt = ((L : Nat) : Int)) (hL : L ≤ 120) (tpl : pl.toInt = ((pos : Nat) : Int)) (hpL : pos ≤ L) (hCH : CHR fb L c) (hLC : LC fs fw lz t0) (hfa : fa.toInt = 0) (htp : t0.length ≤ pos) (top_ : op_.toInt = ((opn : Nat) : Int)) (hok : opn + k = 6), Mg l yX9_readOperand wsX9_readOperand ({ frames := 7 * (k) + 8, cells := 0, slots := 0, locals := 250 * (k) + 400 }) D Y [(tp, .inr (8, [.ref tb, .int tl, .ref lw, .int pl, .int fa])), (tb, .inl (Y 0, 120, .inl fb)), (lw, .inr (4, [.ref ws_, .ref ww, .ref wt, .ref wn, .ref wg, .ref wi, .int lz])), (ws_, .inl (Y 0, 128, .inl fs)), (ww, .inl (Y 0, 128, .inl fw))] [.ref tp, .int op_] 0 0 (fun vv__ ww__ => (∃ (q : Nat), ∃ (ts : List Tok), ∃ (pl2 : Int32), ∃ (lz2 : Int32), ∃ (fs2 : Nat → Int32), ∃ (fw2 : Nat → Int32), vv__ = none ∧ ww__ = [(tp, .inr (8, [.ref tb, .int tl, .ref lw, .int pl2, .int fa])), (tb, .inl (Y 0, 120, .inl fb)), (lw, .inr (4, [.ref ws_, .ref ww, .ref wt, .ref wn, .ref wg, .ref wi, .int lz2])), (ws_, .inl (Y 0, 128, .inl fs2)), (ww, .inl (Y 0, 128, .inl fw2))] ∧ (pl2.toInt = ((q : Nat) : Int)) ∧ (pOp c k pos = (q, some ts)) ∧ (pos + ts.length ≤ q ∧ q ≤ L) ∧ (LC fs2 fw2 lz2 (t0 ++ ts))) ∨ (∃ (q : Nat), ∃ (t1 : List Tok), ∃ (pl2 : Int32), ∃ (fa2 : Int32), ∃ (lz2 : Int32), ∃ (fs2 : Nat → Int32), ∃ (fw2 : Nat → Int32), vv__ = none ∧ ww__ = [(tp, .inr (8, [.ref tb, .int tl, .ref lw, .int pl2, .int fa2])), (tb, .inl (Y 0, 120, .inl fb)), (lw, .inr (4, [.ref ws_, .ref ww, .ref wt, .ref wn, .ref wg, .ref wi, .int lz2])), (ws_, .inl (Y 0, 128, .inl fs2)), (ww, .inl (Y 0, 128, .inl fw2))] ∧ (pl2.toInt = ((q : Nat) : Int)) ∧ (pOp c k pos = (q, none)) ∧ (q ≤ L) ∧ (fa2.toInt ≠ 0 ∨ (48 ≤ c q ∧ c q ≤ 57)) ∧ (LC fs2 fw2 lz2 t1)))) : Mg l yX9_readTerms wsX9_readTerms ({ frames := 7 * (k) + 9 + (0), cells := 0, slots := 0, locals := 250 * (k) + 430 + 30 * (0) }) D Y [(tp, .inr (8, [.ref tb, .int tl, .ref lw, .int pl, .int fa])), (tb, .inl (Y 0, 120, .inl fb)), (lw, .inr (4, [.ref ws_, .ref ww, .ref wt, .ref wn, .ref wg, .ref wi, .int lz])), (ws_, .inl (Y 0, 128, .inl fs)), (ww, .inl (Y 0, 128, .inl fw))] [.ref tp, .int lv_, .int op_] 0 0 (fun vv__ ww__ => (∃ (q : Nat), ∃ (ts : List Tok), ∃ (pl2 : Int32), ∃ (lz2 : Int32), ∃ (fs2 : Nat → Int32), ∃ (fw2 : Nat → Int32), vv__ = none ∧ ww__ = [(tp, .inr (8, [.ref tb, .int tl, .ref lw, .int pl2, .int fa])), (tb, .inl (Y 0, 120, .inl fb)), (lw, .inr (4, [.ref ws_, .ref ww, .ref wt, .ref wn, .ref wg, .ref wi, .int lz2])), (ws_, .inl (Y 0, 128, .inl fs2)), (ww, .inl (Y 0, 128, .inl fw2))] ∧ (pl2.toInt = ((q : Nat) : Int)) ∧ (pTm c (pOp c k) 0 pos = (q, some ts)) ∧ (pos + ts.length ≤ q ∧ q ≤ L) ∧ (LC fs2 fw2 lz2 (t0 ++ ts))) ∨ (∃ (q : Nat), ∃ (t1 : List Tok), ∃ (pl2 : Int32), ∃ (fa2 : Int32), ∃ (lz2 : Int32), ∃ (fs2 : Nat → Int32), ∃ (fw2 : Nat → Int32), vv__ = none ∧ ww__ = [(tp, .inr (8, [.ref tb, .int tl, .ref lw, .int pl2, .int fa2])), (tb, .inl (Y 0, 120, .inl fb)), (lw, .inr (4, [.ref ws_, .ref ww, .ref wt, .ref wn, .ref wg, .ref wi, .int lz2])), (ws_, .inl (Y 0, 128, .inl fs2)), (ww, .inl (Y 0, 128, .inl fw2))] ∧ (pl2.toInt = ((q : Nat) : Int)) ∧ (pTm c (pOp c k) 0 pos = (q, none)) ∧ (q ≤ L) ∧ (fa2.toInt ≠ 0 ∨ (48 ≤ c q ∧ c q ≤ 57)) ∧ (LC fs2 fw2 lz2 t1))) := by
  refine Mg_of (cc := cX9_readTerms) (maxL := 5) (ret := none) (ls0 := [(0, .ref tp), (1, .int lv_), (2, .int op_)]) RX9 (by decide) rfl rfl rfl (Nat.le_of_ble_eq_true rfl) (fun p__ e__ s__ m__ b__ t__ c__ X hr hn => ?_)
  refine V_iload_n X 1 rfl dX9_readTerms_0 ?_
  refine V_iconst (v := (5 : Int32)) X (by decide) dX9_readTerms_1 ?_
  refine V_icmp_lt X tlv_ (show (5 : Int32).toInt = 5 from by decide) 11 dX9_readTerms_2 (by decide) (fun c_2 => False.elim (by omega)) (fun c_2 => ?_)
  refine V_aload_n X 0 rfl dX9_readTerms_5 ?_
  refine V_iload_n X 2 rfl dX9_readTerms_6 ?_
  refine V_callV (C := RX9) (wr := []) (st := []) X (ihO l D Y tp tb lw tl pl fa pos L c ws_ ww wt wn wg wi lz fs fw t0 fb op_ opn ttl hL tpl hpL hCH hLC hfa htp top_ hok) 1 gX9_readTerms_X9_readOperand rfl (by decide +kernel) ⟨rfl, rfl⟩ ⟨(by simp only [headSpec]; omega), (by simp only [headSpec]; omega)⟩ [0, 1, 2, 3, 4] [] rfl rfl rfl rfl (by decide) (ci := 8) rfl rfl 0 rfl rfl rfl (Nat.le_of_ble_eq_true rfl) ⟨Nat.le_of_ble_eq_true rfl, Nat.le_of_ble_eq_true rfl⟩ dX9_readTerms_7 (fun v_7 w_7 h_7 => ?_)
  rcases h_7 with ⟨q_w, ts_w, pl2_4, lz2_5, fs2_6, fw2_7, rfl, rfl, htpl2_8, hhR_9, hhqb_10, hhLC2_11⟩ | ⟨q_w, t1_w, pl2_14, fa2_15, lz2_16, fs2_17, fw2_18, rfl, rfl, htpl2_19, hhR_20, hhqL_21, hhD_22, hhLC2_23⟩
  · refine V_to (pc' := 10) (ls' := [(0, .ref tp), (1, .int lv_), (2, .int op_)]) (st' := []) (ws' := [(tp, .inr (8, [.ref tb, .int tl, .ref lw, .int pl2_4, .int fa])), (tb, .inl (Y 0, 120, .inl fb)), (lw, .inr (4, [.ref ws_, .ref ww, .ref wt, .ref wn, .ref wg, .ref wi, .int lz2_5])), (ws_, .inl (Y 0, 128, .inl fs2_6)), (ww, .inl (Y 0, 128, .inl fw2_7))]) ?_ rfl rfl rfl rfl
    exact V_vret X hr dX9_readTerms_10 (Or.inl ⟨q_w, ts_w, pl2_4, lz2_5, fs2_6, fw2_7, rfl, rfl, htpl2_8, hhR_9, hhqb_10, hhLC2_11⟩)
  · refine V_to (pc' := 10) (ls' := [(0, .ref tp), (1, .int lv_), (2, .int op_)]) (st' := []) (ws' := [(tp, .inr (8, [.ref tb, .int tl, .ref lw, .int pl2_14, .int fa2_15])), (tb, .inl (Y 0, 120, .inl fb)), (lw, .inr (4, [.ref ws_, .ref ww, .ref wt, .ref wn, .ref wg, .ref wi, .int lz2_16])), (ws_, .inl (Y 0, 128, .inl fs2_17)), (ww, .inl (Y 0, 128, .inl fw2_18))]) ?_ rfl rfl rfl rfl
    exact V_vret X hr dX9_readTerms_10 (Or.inr (⟨q_w, t1_w, pl2_14, fa2_15, lz2_16, fs2_17, fw2_18, rfl, rfl, htpl2_19, hhR_20, hhqL_21, hhD_22, hhLC2_23⟩))

theorem in_X9_readTerms_X9 : ∀ w ∈ wsX90, w ∈ wsX9_readTerms := fun w h => List.mem_cons_of_mem _ (List.mem_append_left _ (List.mem_append_right _ h))
set_option maxHeartbeats 4000000 in
set_option maxRecDepth 100000 in
theorem c_X9_readTerms_s (l : Launch) (D : va_G) (Y : Nat → ClassId) (tp : Nat) (tb : Nat) (lw : Nat) (tl : Int32) (pl : Int32) (fa : Int32) (pos : Nat) (L : Nat) (c : Nat → Int) (ws_ : Nat) (ww : Nat) (wt : Nat) (wn : Nat) (wg : Nat) (wi : Nat) (lz : Int32) (fs : Nat → Int32) (fw : Nat → Int32) (t0 : List Tok) (fb : Nat → Int32) (k : Nat) (j : Nat) (lv_ : Int32) (lev : Nat) (op_ : Int32) (opn : Nat) (ttl : tl.toInt = ((L : Nat) : Int)) (hL : L ≤ 120) (tpl : pl.toInt = ((pos : Nat) : Int)) (hpL : pos ≤ L) (hCH : CHR fb L c) (hLC : LC fs fw lz t0) (hfa : fa.toInt = 0) (htp : t0.length ≤ pos) (top_ : op_.toInt = ((opn : Nat) : Int)) (hok : opn + k = 6) (tlv_ : lv_.toInt = ((lev : Nat) : Int)) (hlj : lev + (j + 1) = 5) (ihT : ∀ (l : Launch) (D : va_G) (Y : Nat → ClassId) (tp : Nat) (tb : Nat) (lw : Nat) (tl : Int32) (pl : Int32) (fa : Int32) (pos : Nat) (L : Nat) (c : Nat → Int) (ws_ : Nat) (ww : Nat) (wt : Nat) (wn : Nat) (wg : Nat) (wi : Nat) (lz : Int32) (fs : Nat → Int32) (fw : Nat → Int32) (t0 : List Tok) (fb : Nat → Int32) (lv_ : Int32) (lev : Nat) (op_ : Int32) (opn : Nat) (ttl : tl.toInt = ((L : Nat) : Int)) (hL : L ≤ 120) (tpl : pl.toInt = ((pos : Nat) : Int)) (hpL : pos ≤ L) (hCH : CHR fb L c) (hLC : LC fs fw lz t0) (hfa : fa.toInt = 0) (htp : t0.length ≤ pos) (top_ : op_.toInt = ((opn : Nat) : Int)) (hok : opn + k = 6) (tlv_ : lv_.toInt = ((lev : Nat) : Int)) (hlj : lev + j = 5), Mg l yX9_readTerms wsX9_readTerms ({ frames := 7 * (k) + 9 + (j), cells := 0, slots := 0, locals := 250 * (k) + 430 + 30 * (j) }) D Y [(tp, .inr (8, [.ref tb, .int tl, .ref lw, .int pl, .int fa])), (tb, .inl (Y 0, 120, .inl fb)), (lw, .inr (4, [.ref ws_, .ref ww, .ref wt, .ref wn, .ref wg, .ref wi, .int lz])), (ws_, .inl (Y 0, 128, .inl fs)), (ww, .inl (Y 0, 128, .inl fw))] [.ref tp, .int lv_, .int op_] 0 0 (fun vv__ ww__ => (∃ (q : Nat), ∃ (ts : List Tok), ∃ (pl2 : Int32), ∃ (lz2 : Int32), ∃ (fs2 : Nat → Int32), ∃ (fw2 : Nat → Int32), vv__ = none ∧ ww__ = [(tp, .inr (8, [.ref tb, .int tl, .ref lw, .int pl2, .int fa])), (tb, .inl (Y 0, 120, .inl fb)), (lw, .inr (4, [.ref ws_, .ref ww, .ref wt, .ref wn, .ref wg, .ref wi, .int lz2])), (ws_, .inl (Y 0, 128, .inl fs2)), (ww, .inl (Y 0, 128, .inl fw2))] ∧ (pl2.toInt = ((q : Nat) : Int)) ∧ (pTm c (pOp c k) j pos = (q, some ts)) ∧ (pos + ts.length ≤ q ∧ q ≤ L) ∧ (LC fs2 fw2 lz2 (t0 ++ ts))) ∨ (∃ (q : Nat), ∃ (t1 : List Tok), ∃ (pl2 : Int32), ∃ (fa2 : Int32), ∃ (lz2 : Int32), ∃ (fs2 : Nat → Int32), ∃ (fw2 : Nat → Int32), vv__ = none ∧ ww__ = [(tp, .inr (8, [.ref tb, .int tl, .ref lw, .int pl2, .int fa2])), (tb, .inl (Y 0, 120, .inl fb)), (lw, .inr (4, [.ref ws_, .ref ww, .ref wt, .ref wn, .ref wg, .ref wi, .int lz2])), (ws_, .inl (Y 0, 128, .inl fs2)), (ww, .inl (Y 0, 128, .inl fw2))] ∧ (pl2.toInt = ((q : Nat) : Int)) ∧ (pTm c (pOp c k) j pos = (q, none)) ∧ (q ≤ L) ∧ (fa2.toInt ≠ 0 ∨ (48 ≤ c q ∧ c q ≤ 57)) ∧ (LC fs2 fw2 lz2 t1)))) : Mg l yX9_readTerms wsX9_readTerms ({ frames := 7 * (k) + 9 + ((j + 1)), cells := 0, slots := 0, locals := 250 * (k) + 430 + 30 * ((j + 1)) }) D Y [(tp, .inr (8, [.ref tb, .int tl, .ref lw, .int pl, .int fa])), (tb, .inl (Y 0, 120, .inl fb)), (lw, .inr (4, [.ref ws_, .ref ww, .ref wt, .ref wn, .ref wg, .ref wi, .int lz])), (ws_, .inl (Y 0, 128, .inl fs)), (ww, .inl (Y 0, 128, .inl fw))] [.ref tp, .int lv_, .int op_] 0 0 (fun vv__ ww__ => (∃ (q : Nat), ∃ (ts : List Tok), ∃ (pl2 : Int32), ∃ (lz2 : Int32), ∃ (fs2 : Nat → Int32), ∃ (fw2 : Nat → Int32), vv__ = none ∧ ww__ = [(tp, .inr (8, [.ref tb, .int tl, .ref lw, .int pl2, .int fa])), (tb, .inl (Y 0, 120, .inl fb)), (lw, .inr (4, [.ref ws_, .ref ww, .ref wt, .ref wn, .ref wg, .ref wi, .int lz2])), (ws_, .inl (Y 0, 128, .inl fs2)), (ww, .inl (Y 0, 128, .inl fw2))] ∧ (pl2.toInt = ((q : Nat) : Int)) ∧ (pTm c (pOp c k) (j + 1) pos = (q, some ts)) ∧ (pos + ts.length ≤ q ∧ q ≤ L) ∧ (LC fs2 fw2 lz2 (t0 ++ ts))) ∨ (∃ (q : Nat), ∃ (t1 : List Tok), ∃ (pl2 : Int32), ∃ (fa2 : Int32), ∃ (lz2 : Int32), ∃ (fs2 : Nat → Int32), ∃ (fw2 : Nat → Int32), vv__ = none ∧ ww__ = [(tp, .inr (8, [.ref tb, .int tl, .ref lw, .int pl2, .int fa2])), (tb, .inl (Y 0, 120, .inl fb)), (lw, .inr (4, [.ref ws_, .ref ww, .ref wt, .ref wn, .ref wg, .ref wi, .int lz2])), (ws_, .inl (Y 0, 128, .inl fs2)), (ww, .inl (Y 0, 128, .inl fw2))] ∧ (pl2.toInt = ((q : Nat) : Int)) ∧ (pTm c (pOp c k) (j + 1) pos = (q, none)) ∧ (q ≤ L) ∧ (fa2.toInt ≠ 0 ∨ (48 ≤ c q ∧ c q ≤ 57)) ∧ (LC fs2 fw2 lz2 t1))) := by
  refine Mg_of (cc := cX9_readTerms) (maxL := 5) (ret := none) (ls0 := [(0, .ref tp), (1, .int lv_), (2, .int op_)]) RX9 (by decide) rfl rfl rfl (Nat.le_of_ble_eq_true rfl) (fun p__ e__ s__ m__ b__ t__ c__ X hr hn => ?_)
  refine V_iload_n X 1 rfl dX9_readTerms_0 ?_
  refine V_iconst (v := (5 : Int32)) X (by decide) dX9_readTerms_1 ?_
  refine V_icmp_lt X tlv_ (show (5 : Int32).toInt = 5 from by decide) 11 dX9_readTerms_2 (by decide) (fun c_2 => ?_) (fun c_2 => False.elim (by omega))
  refine V_aload_n X 0 rfl dX9_readTerms_11 ?_
  refine V_iload_n X 1 rfl dX9_readTerms_12 ?_
  refine V_iconst (v := (1 : Int32)) X (by decide) dX9_readTerms_13 ?_
  refine V_iaddZ X tlv_ (show (1 : Int32).toInt = 1 from by decide) (by omega) (by omega) dX9_readTerms_14 (fun x_1 ex_1 tx_1 => ?_)
  have tx_1 : x_1.toInt = (((lev + 1) : Nat) : Int) := by omega
  refine V_iload_n X 2 rfl dX9_readTerms_15 ?_
  refine V_callV (C := RX9) (wr := []) (st := []) X (ihT l D Y tp tb lw tl pl fa pos L c ws_ ww wt wn wg wi lz fs fw t0 fb x_1 (lev + 1) op_ opn ttl hL tpl hpL hCH hLC hfa htp top_ hok tx_1 (by omega)) 2 gX9_readTerms_X9_readTerms rfl (by decide +kernel) ⟨rfl, rfl⟩ ⟨(by simp only [headSpec]; omega), (by simp only [headSpec]; omega)⟩ [0, 1, 2, 3, 4] [] rfl rfl rfl rfl (by decide) (ci := 8) rfl rfl 0 rfl rfl rfl (Nat.le_of_ble_eq_true rfl) ⟨Nat.le_of_ble_eq_true rfl, Nat.le_of_ble_eq_true rfl⟩ dX9_readTerms_16 (fun v_16 w_16 h_16 => ?_)
  rcases h_16 with ⟨q_f, ts_f, pl2_5, lz2_6, fs2_7, fw2_8, rfl, rfl, tplf, hRf, hqbf, hLf⟩ | ⟨q_f, t1_f, pl2_15, fa2_16, lz2_17, fs2_18, fw2_19, rfl, rfl, tplf, hRf, hqLf, hDf, hLf⟩
  · refine V_to (pc' := 19) (ls' := [(0, .ref tp), (1, .int lv_), (2, .int op_)]) (st' := []) (ws' := [(tp, .inr (8, [.ref tb, .int tl, .ref lw, .int pl2_5, .int fa])), (tb, .inl (Y 0, 120, .inl fb)), (lw, .inr (4, [.ref ws_, .ref ww, .ref wt, .ref wn, .ref wg, .ref wi, .int lz2_6])), (ws_, .inl (Y 0, 128, .inl fs2_7)), (ww, .inl (Y 0, 128, .inl fw2_8))]) ?_ rfl rfl rfl rfl
    refine V_iconst (v := (0 : Int32)) X (by decide) dX9_readTerms_19 ?_
    refine V_istore_n (ls' := [(3, .int (0 : Int32)), (0, .ref tp), (1, .int lv_), (2, .int op_)]) X (by decide) rfl dX9_readTerms_20 ?_
    refine V_ls (ls' := [(0, .ref tp), (1, .int lv_), (2, .int op_), (3, .int (0 : Int32))]) [1, 2, 3, 0] rfl ?_
    refine V_to (V_ind9 (fun (i3 : Int32) (i : Nat) (p3 : Int32) (q : Nat) (fa3 : Int32) (lz3 : Int32) (fs3 : Nat → Int32) (fw3 : Nat → Int32) (t3 : List Tok) => (i3.toInt = ((i : Nat) : Int)) ∧ (p3.toInt = ((q : Nat) : Int)) ∧ (i ≤ 120) ∧ (q ≤ L) ∧ (LC fs3 fw3 lz3 t3) ∧ ((fa3.toInt = 0 ∧ ∃ ts, t3 = t0 ++ ts ∧ pos + ts.length ≤ q ∧ pLp c (pTm c (pOp c k) j) lev (120 - i) q ts = pTm c (pOp c k) (j + 1) pos) ∨ ((fa3.toInt ≠ 0 ∨ (48 ≤ c q ∧ c q ≤ 57)) ∧ pTm c (pOp c k) (j + 1) pos = (q, none)))) (fun (i3 : Int32) (i : Nat) (p3 : Int32) (q : Nat) (fa3 : Int32) (lz3 : Int32) (fs3 : Nat → Int32) (fw3 : Nat → Int32) (t3 : List Tok) => 120 - i) (fun (i3 : Int32) (i : Nat) (p3 : Int32) (q : Nat) (fa3 : Int32) (lz3 : Int32) (fs3 : Nat → Int32) (fw3 : Nat → Int32) (t3 : List Tok) => [(0, .ref tp), (1, .int lv_), (2, .int op_), (3, .int i3)]) (fun (i3 : Int32) (i : Nat) (p3 : Int32) (q : Nat) (fa3 : Int32) (lz3 : Int32) (fs3 : Nat → Int32) (fw3 : Nat → Int32) (t3 : List Tok) => [(tp, .inr (8, [.ref tb, .int tl, .ref lw, .int p3, .int fa3])), (tb, .inl (Y 0, 120, .inl fb)), (lw, .inr (4, [.ref ws_, .ref ww, .ref wt, .ref wn, .ref wg, .ref wi, .int lz3])), (ws_, .inl (Y 0, 128, .inl fs3)), (ww, .inl (Y 0, 128, .inl fw3))]) (fun i3 i p3 q fa3 lz3 fs3 fw3 t3 hI_21 ih_21 => ?_) (0 : Int32) 0 pl2_5 q_f fa lz2_6 fs2_7 fw2_8 ({(16, 0): '(t0 ++ ts_f)', (16, 1): 't1_f'}) ?_) rfl rfl rfl rfl
    · obtain ⟨ti3, tp3, hi, hqL3, hLC3, hLI⟩ := hI_21
      refine V_to (ls' := [(0, .ref tp), (1, .int lv_), (2, .int op_), (3, .int i3)]) (ws' := [(tp, .inr (8, [.ref tb, .int tl, .ref lw, .int p3, .int fa3])), (tb, .inl (Y 0, 120, .inl fb)), (lw, .inr (4, [.ref ws_, .ref ww, .ref wt, .ref wn, .ref wg, .ref wi, .int lz3])), (ws_, .inl (Y 0, 128, .inl fs3)), (ww, .inl (Y 0, 128, .inl fw3))]) ?_ rfl rfl rfl rfl
      refine V_iload_n X 3 rfl dX9_readTerms_21 ?_
      refine V_bipush (v := (120 : Int32)) X (by decide) dX9_readTerms_22 ?_
      refine V_icmp_ge X ti3 (show (120 : Int32).toInt = 120 from by decide) 84 dX9_readTerms_24 (by decide) (fun c_24 => ?_) (fun c_24 => ?_)
      · rcases hLI with hAL | hDD
        · exact V_vret X hr dX9_readTerms_84 (Or.inl ⟨q, (hAL.2.choose), p3, lz3, fs3, fw3, rfl, rfl, tp3, (pLp_x hAL.2.choose_spec.2.2 (Or.inl (by omega))), ⟨hAL.2.choose_spec.2.1, hqL3⟩, (hAL.2.choose_spec.1 ▸ hLC3)⟩)
        · exact V_vret X hr dX9_readTerms_84 (Or.inr (⟨q, t3, p3, fa3, lz3, fs3, fw3, rfl, rfl, tp3, hDD.2, hqL3, hDD.1, hLC3⟩))
      · refine V_aload_n X 0 rfl dX9_readTerms_27 ?_
        refine V_callV (C := RX9) (wr := [(lw, .inr (4, [.ref ws_, .ref ww, .ref wt, .ref wn, .ref wg, .ref wi, .int lz3])), (ws_, .inl (Y 0, 128, .inl fs3)), (ww, .inl (Y 0, 128, .inl fw3))]) (st := []) X (c_X9_peek l D Y tp tb lw tl p3 fa3 q L c fb ttl hL tp3 hqL3 hCH) 0 gX9_readTerms_X9_peek rfl (by decide +kernel) ⟨rfl, rfl⟩ ⟨(by simp only [headSpec]; omega), (by simp only [headSpec]; omega)⟩ [0, 1] [2, 3, 4] rfl rfl rfl rfl (by decide) (ci := 8) rfl rfl 0 rfl rfl rfl (Nat.le_of_ble_eq_true rfl) ⟨Nat.le_of_ble_eq_true rfl, Nat.le_of_ble_eq_true rfl⟩ dX9_readTerms_28 (fun v_28 w_28 h_28 => ?_)
        obtain ⟨r_26, rfl, rfl, hhpk_27⟩ := h_28
        refine V_to (pc' := 31) (ls' := [(0, .ref tp), (1, .int lv_), (2, .int op_), (3, .int i3)]) (st' := [.int r_26]) (ws' := [(lw, .inr (4, [.ref ws_, .ref ww, .ref wt, .ref wn, .ref wg, .ref wi, .int lz3])), (ws_, .inl (Y 0, 128, .inl fs3)), (ww, .inl (Y 0, 128, .inl fw3)), (tp, .inr (8, [.ref tb, .int tl, .ref lw, .int p3, .int fa3])), (tb, .inl (Y 0, 120, .inl fb))]) ?_ rfl rfl rfl rfl
        refine V_callS (wr := [(lw, .inr (4, [.ref ws_, .ref ww, .ref wt, .ref wn, .ref wg, .ref wi, .int lz3])), (ws_, .inl (Y 0, 128, .inl fs3)), (ww, .inl (Y 0, 128, .inl fw3)), (tp, .inr (8, [.ref tb, .int tl, .ref lw, .int p3, .int fa3])), (tb, .inl (Y 0, 120, .inl fb))]) (st := []) X (c_X9_levelOf l D Y r_26) 1 gX9_readTerms_X9_levelOf rfl (by decide +kernel) ⟨rfl, rfl⟩ ⟨(by simp only [headSpec]; omega), (by simp only [headSpec]; omega)⟩ [] [0, 1, 2, 3, 4] rfl rfl rfl rfl (by decide) rfl rfl (Nat.le_of_ble_eq_true rfl) ⟨Nat.le_of_ble_eq_true rfl, Nat.le_of_ble_eq_true rfl⟩ dX9_readTerms_31 (fun v_31 w_31 h_31 => ?_)
        obtain ⟨r_29, rfl, rfl, htr_30⟩ := h_31
        refine V_to (pc' := 34) (ls' := [(0, .ref tp), (1, .int lv_), (2, .int op_), (3, .int i3)]) (st' := [.int r_29]) (ws' := [(lw, .inr (4, [.ref ws_, .ref ww, .ref wt, .ref wn, .ref wg, .ref wi, .int lz3])), (ws_, .inl (Y 0, 128, .inl fs3)), (ww, .inl (Y 0, 128, .inl fw3)), (tp, .inr (8, [.ref tb, .int tl, .ref lw, .int p3, .int fa3])), (tb, .inl (Y 0, 120, .inl fb))]) ?_ rfl rfl rfl rfl
        refine V_iload_n X 1 rfl dX9_readTerms_34 ?_
        refine V_icmp_ne X htr_30 tlv_ 84 dX9_readTerms_35 (by decide) (fun c_35 => ?_) (fun c_35 => ?_)
        · rcases hLI with hAL | hDD
          · refine V_ws (ws' := [(tp, .inr (8, [.ref tb, .int tl, .ref lw, .int p3, .int fa3])), (tb, .inl (Y 0, 120, .inl fb)), (lw, .inr (4, [.ref ws_, .ref ww, .ref wt, .ref wn, .ref wg, .ref wi, .int lz3])), (ws_, .inl (Y 0, 128, .inl fs3)), (ww, .inl (Y 0, 128, .inl fw3))]) [3, 4, 0, 1, 2] rfl rfl rfl ?_
            exact V_vret X hr dX9_readTerms_84 (Or.inl ⟨q, (hAL.2.choose), p3, lz3, fs3, fw3, rfl, rfl, tp3, (pLp_x hAL.2.choose_spec.2.2 (Or.inr (by rw [← lvC_PK (PK_0 hhpk_27 hAL.1)]; omega))), ⟨hAL.2.choose_spec.2.1, hqL3⟩, (hAL.2.choose_spec.1 ▸ hLC3)⟩)
          · refine V_ws (ws' := [(tp, .inr (8, [.ref tb, .int tl, .ref lw, .int p3, .int fa3])), (tb, .inl (Y 0, 120, .inl fb)), (lw, .inr (4, [.ref ws_, .ref ww, .ref wt, .ref wn, .ref wg, .ref wi, .int lz3])), (ws_, .inl (Y 0, 128, .inl fs3)), (ww, .inl (Y 0, 128, .inl fw3))]) [3, 4, 0, 1, 2] rfl rfl rfl ?_
            exact V_vret X hr dX9_readTerms_84 (Or.inr (⟨q, t3, p3, fa3, lz3, fs3, fw3, rfl, rfl, tp3, hDD.2, hqL3, hDD.1, hLC3⟩))
        · have hpe := hhpk_27
          have hAL := hLI.resolve_right (fun hDD => by have h9 := lvC_dead (PK_dead hpe hDD.1); omega)
          obtain ⟨h0a, ts_, ht3, hb3, hP3⟩ := hAL
          have h0a : fa3.toInt = 0 := h0a
          have hlc : lvC (c q) = ((lev : Nat) : Int) := by rw [← lvC_PK (PK_0 hpe h0a)]; omega
          have hcb := lvC_big (show lvC (c q) ≠ -2 by omega)
          have hqlt := CHR_lt hCH (show c q ≠ -1 by omega)
          refine V_aload_n X 0 rfl dX9_readTerms_38 ?_
          refine V_callV (C := RX9) (wr := [(lw, .inr (4, [.ref ws_, .ref ww, .ref wt, .ref wn, .ref wg, .ref wi, .int lz3])), (ws_, .inl (Y 0, 128, .inl fs3)), (ww, .inl (Y 0, 128, .inl fw3))]) (st := []) X (c_X9_peek l D Y tp tb lw tl p3 fa3 q L c fb ttl hL tp3 hqL3 hCH) 0 gX9_readTerms_X9_peek rfl (by decide +kernel) ⟨rfl, rfl⟩ ⟨(by simp only [headSpec]; omega), (by simp only [headSpec]; omega)⟩ [3, 4] [0, 1, 2] rfl rfl rfl rfl (by decide) (ci := 8) rfl rfl 0 rfl rfl rfl (Nat.le_of_ble_eq_true rfl) ⟨Nat.le_of_ble_eq_true rfl, Nat.le_of_ble_eq_true rfl⟩ dX9_readTerms_39 (fun v_39 w_39 h_39 => ?_)
          obtain ⟨r_32, rfl, rfl, hhpk_33⟩ := h_39
          refine V_to (pc' := 42) (ls' := [(0, .ref tp), (1, .int lv_), (2, .int op_), (3, .int i3)]) (st' := [.int r_32]) (ws' := [(lw, .inr (4, [.ref ws_, .ref ww, .ref wt, .ref wn, .ref wg, .ref wi, .int lz3])), (ws_, .inl (Y 0, 128, .inl fs3)), (ww, .inl (Y 0, 128, .inl fw3)), (tp, .inr (8, [.ref tb, .int tl, .ref lw, .int p3, .int fa3])), (tb, .inl (Y 0, 120, .inl fb))]) ?_ rfl rfl rfl rfl
          have hop : r_32.toInt = c q := by have h9 := PK_0 hhpk_33 h0a; unfold PK at h9; omega
          refine V_istore (ls' := [(4, .int r_32), (0, .ref tp), (1, .int lv_), (2, .int op_), (3, .int i3)]) X (by decide) rfl dX9_readTerms_42 ?_
          refine V_aload_n X 1 rfl dX9_readTerms_44 ?_
          refine V_dup X rfl dX9_readTerms_45 ?_
          refine V_get (C := RX9) (T := TX9) (N := 5) (ci := 8) (v := .int p3) X in_X9_readTerms_X9 3 rfl rfl 3 (by decide) (List.mem_of_getElem? (i := 1) rfl) rfl rfl dX9_readTerms_46 ?_
          refine V_iconst (v := (1 : Int32)) X (by decide) dX9_readTerms_49 ?_
          refine V_iaddZ X tp3 (show (1 : Int32).toInt = 1 from by decide) (by omega) (by omega) dX9_readTerms_50 (fun x_34 ex_34 tx_34 => ?_)
          have tx_34 : x_34.toInt = (((q + 1) : Nat) : Int) := by omega
          refine V_put (C := RX9) (T := TX9) (N := 5) (ci := 8) (v := .int x_34) (ty := tyX9 3) (ws' := [(lw, .inr (4, [.ref ws_, .ref ww, .ref wt, .ref wn, .ref wg, .ref wi, .int lz3])), (ws_, .inl (Y 0, 128, .inl fs3)), (ww, .inl (Y 0, 128, .inl fw3)), (tp, .inr (8, [.ref tb, .int tl, .ref lw, .int x_34, .int fa3])), (tb, .inl (Y 0, 120, .inl fb))]) X in_X9_readTerms_X9 3 rfl rfl 3 (by decide) (List.mem_of_getElem? (i := 1) rfl) rfl tyX9 tyX9_ok nmX9 rfl (tyX9_ok 3 (by decide)) rfl rfl (Nat.le_of_ble_eq_true rfl) rfl dX9_readTerms_51 ?_
          refine V_aload_n X 1 rfl dX9_readTerms_54 ?_
          refine V_iload_n X 2 rfl dX9_readTerms_55 ?_
          refine V_iconst (v := (1 : Int32)) X (by decide) dX9_readTerms_56 ?_
          refine V_iaddZ X tlv_ (show (1 : Int32).toInt = 1 from by decide) (by omega) (by omega) dX9_readTerms_57 (fun x_35 ex_35 tx_35 => ?_)
          have tx_35 : x_35.toInt = (((lev + 1) : Nat) : Int) := by omega
          refine V_iload_n X 3 rfl dX9_readTerms_58 ?_
          refine V_callV (C := RX9) (wr := []) (st := []) X (ihT l D Y tp tb lw tl x_34 fa3 (q + 1) L c ws_ ww wt wn wg wi lz3 fs3 fw3 t3 fb x_35 (lev + 1) op_ opn ttl hL tx_34 (by omega) hCH hLC3 h0a (by have h9 := congrArg List.length ht3; rw [List.length_append] at h9; omega) top_ hok tx_35 (by omega)) 2 gX9_readTerms_X9_readTerms rfl (by decide +kernel) ⟨rfl, rfl⟩ ⟨(by simp only [headSpec]; omega), (by simp only [headSpec]; omega)⟩ [3, 4, 0, 1, 2] [] rfl rfl rfl rfl (by decide) (ci := 8) rfl rfl 0 rfl rfl rfl (Nat.le_of_ble_eq_true rfl) ⟨Nat.le_of_ble_eq_true rfl, Nat.le_of_ble_eq_true rfl⟩ dX9_readTerms_59 (fun v_59 w_59 h_59 => ?_)
          rcases h_59 with ⟨q_g, ts_g, pl2_39, lz2_40, fs2_41, fw2_42, rfl, rfl, tplg, hRg, hqbg, hLg⟩ | ⟨q_g, t1_g, pl2_49, fa2_50, lz2_51, fs2_52, fw2_53, rfl, rfl, tplg, hRg, hqLg, hDg, hLg⟩
          · refine V_to (pc' := 62) (ls' := [(4, .int r_32), (0, .ref tp), (1, .int lv_), (2, .int op_), (3, .int i3)]) (st' := []) (ws' := [(tp, .inr (8, [.ref tb, .int tl, .ref lw, .int pl2_39, .int fa3])), (tb, .inl (Y 0, 120, .inl fb)), (lw, .inr (4, [.ref ws_, .ref ww, .ref wt, .ref wn, .ref wg, .ref wi, .int lz2_40])), (ws_, .inl (Y 0, 128, .inl fs2_41)), (ww, .inl (Y 0, 128, .inl fw2_42))]) ?_ rfl rfl rfl rfl
            refine V_aload_n X 1 rfl dX9_readTerms_62 ?_
            refine V_get (C := RX9) (T := TX9) (N := 5) (ci := 8) (v := .ref lw) X in_X9_readTerms_X9 0 rfl rfl 2 (by decide) (List.mem_of_getElem? (i := 2) rfl) rfl rfl dX9_readTerms_63 ?_
            refine V_iload X 0 rfl dX9_readTerms_66 ?_
            refine V_iconst (v := (0 : Int32)) X (by decide) dX9_readTerms_68 ?_
            refine V_callV (C := RX5) (wr := [(tp, .inr (8, [.ref tb, .int tl, .ref lw, .int pl2_39, .int fa3])), (tb, .inl (Y 0, 120, .inl fb))]) (st := []) X (c_X5_addT l D Y lw ws_ ww wt wn wg wi lz2_40 fs2_41 fw2_42 (t3 + + ts_g) r_32 (0 : Int32) hLg) 2 gX9_readTerms_X5_add rfl (by decide +kernel) ⟨rfl, rfl⟩ ⟨(by simp only [headSpec]; omega), (by simp only [headSpec]; omega)⟩ [2, 3, 4] [0, 1] rfl rfl rfl rfl (by decide) (ci := 4) rfl rfl 0 rfl rfl rfl (Nat.le_of_ble_eq_true rfl) ⟨Nat.le_of_ble_eq_true rfl, Nat.le_of_ble_eq_true rfl⟩ dX9_readTerms_69 (fun v_69 w_69 h_69 => ?_)
            obtain ⟨lz2_60, fs2_61, fw2_62, t_a, rfl, rfl, hLa, hta⟩ := h_69
            refine V_to (pc' := 72) (ls' := [(4, .int r_32), (0, .ref tp), (1, .int lv_), (2, .int op_), (3, .int i3)]) (st' := []) (ws' := [(tp, .inr (8, [.ref tb, .int tl, .ref lw, .int pl2_39, .int fa3])), (tb, .inl (Y 0, 120, .inl fb)), (lw, .inr (4, [.ref ws_, .ref ww, .ref wt, .ref wn, .ref wg, .ref wi, .int lz2_60])), (ws_, .inl (Y 0, 128, .inl fs2_61)), (ww, .inl (Y 0, 128, .inl fw2_62))]) ?_ rfl rfl rfl rfl
            have hc_0 : (0 : Int32).toInt = 0 := by decide
            have hT9 : t_a = t0 ++ (ts_ ++ ts_g ++ [(c q, 0)]) := by have h9 := congrArg List.length ht3; rw [List.length_append] at h9; have h8 := hta (by rw [List.length_append]; omega); rw [hop, show (0 : Int32).toInt = 0 from by decide] at h8; rw [h8, ht3]; simp only [List.append_assoc]
            have hB9 : pos + (ts_ ++ ts_g ++ [(c q, 0)]).length ≤ q_g := by rw [List.length_append, List.length_append, List.length_singleton]; omega
            refine V_iload_n X 2 rfl dX9_readTerms_72 ?_
            refine V_iconst (v := (2 : Int32)) X (by decide) dX9_readTerms_73 ?_
            refine V_icmp_ne X tlv_ (show (2 : Int32).toInt = 2 from by decide) 78 dX9_readTerms_74 (by decide) (fun c_74 => ?_) (fun c_74 => ?_)
            · refine V_iincZ X (fun vv_ => [(3, .int vv_), (4, .int r_32), (0, .ref tp), (1, .int lv_), (2, .int op_)]) ti3 (by omega) (by omega) (by decide) 4 rfl (by decide) (fun _ => rfl) dX9_readTerms_78 (fun x_66 ex_66 tx_66 => ?_)
              have tx_66 : x_66.toInt = (((i + 1) : Nat) : Int) := by omega
              refine V_goto X 21 (by decide) dX9_readTerms_81 ?_
              refine V_ls (ls' := [(0, .ref tp), (1, .int lv_), (2, .int op_), (3, .int x_66)]) [2, 3, 4, 0] rfl ?_
              exact V_to (ih_21 x_66 (i + 1) pl2_39 q_g fa3 lz2_60 fs2_61 fw2_62 t_a ⟨(by omega), tplg, (by omega), hqbg.2, hLa, (Or.inl ⟨h0a, ts_ ++ ts_g ++ [(c q, 0)], hT9, hB9, (by rw [show 120 - (i + 1) = 120 - i - 1 by omega]; exact pLp_y hP3 (by omega) hlc hRg (by omega))⟩)⟩ (by omega)) rfl rfl rfl rfl
            · exact V_vret X hr dX9_readTerms_77 (Or.inl ⟨q_g, (ts_ ++ ts_g ++ [(c q, 0)]), pl2_39, lz2_60, fs2_61, fw2_62, rfl, rfl, tplg, (pLp_2 hP3 (by omega) hlc hRg (by omega)), ⟨hB9, hqbg.2⟩, (hT9 ▸ hLa)⟩)
          · refine V_to (pc' := 62) (ls' := [(4, .int r_32), (0, .ref tp), (1, .int lv_), (2, .int op_), (3, .int i3)]) (st' := []) (ws' := [(tp, .inr (8, [.ref tb, .int tl, .ref lw, .int pl2_49, .int fa2_50])), (tb, .inl (Y 0, 120, .inl fb)), (lw, .inr (4, [.ref ws_, .ref ww, .ref wt, .ref wn, .ref wg, .ref wi, .int lz2_51])), (ws_, .inl (Y 0, 128, .inl fs2_52)), (ww, .inl (Y 0, 128, .inl fw2_53))]) ?_ rfl rfl rfl rfl
            refine V_aload_n X 1 rfl dX9_readTerms_62 ?_
            refine V_get (C := RX9) (T := TX9) (N := 5) (ci := 8) (v := .ref lw) X in_X9_readTerms_X9 0 rfl rfl 2 (by decide) (List.mem_of_getElem? (i := 2) rfl) rfl rfl dX9_readTerms_63 ?_
            refine V_iload X 0 rfl dX9_readTerms_66 ?_
            refine V_iconst (v := (0 : Int32)) X (by decide) dX9_readTerms_68 ?_
            refine V_callV (C := RX5) (wr := [(tp, .inr (8, [.ref tb, .int tl, .ref lw, .int pl2_49, .int fa2_50])), (tb, .inl (Y 0, 120, .inl fb))]) (st := []) X (c_X5_addT l D Y lw ws_ ww wt wn wg wi lz2_51 fs2_52 fw2_53 t1_g r_32 (0 : Int32) hLg) 2 gX9_readTerms_X5_add rfl (by decide +kernel) ⟨rfl, rfl⟩ ⟨(by simp only [headSpec]; omega), (by simp only [headSpec]; omega)⟩ [2, 3, 4] [0, 1] rfl rfl rfl rfl (by decide) (ci := 4) rfl rfl 0 rfl rfl rfl (Nat.le_of_ble_eq_true rfl) ⟨Nat.le_of_ble_eq_true rfl, Nat.le_of_ble_eq_true rfl⟩ dX9_readTerms_69 (fun v_69 w_69 h_69 => ?_)
            obtain ⟨lz2_68, fs2_69, fw2_70, t_a, rfl, rfl, hLa, hta⟩ := h_69
            refine V_to (pc' := 72) (ls' := [(4, .int r_32), (0, .ref tp), (1, .int lv_), (2, .int op_), (3, .int i3)]) (st' := []) (ws' := [(tp, .inr (8, [.ref tb, .int tl, .ref lw, .int pl2_49, .int fa2_50])), (tb, .inl (Y 0, 120, .inl fb)), (lw, .inr (4, [.ref ws_, .ref ww, .ref wt, .ref wn, .ref wg, .ref wi, .int lz2_68])), (ws_, .inl (Y 0, 128, .inl fs2_69)), (ww, .inl (Y 0, 128, .inl fw2_70))]) ?_ rfl rfl rfl rfl
            have hc_0 : (0 : Int32).toInt = 0 := by decide
            refine V_iload_n X 2 rfl dX9_readTerms_72 ?_
            refine V_iconst (v := (2 : Int32)) X (by decide) dX9_readTerms_73 ?_
            refine V_icmp_ne X tlv_ (show (2 : Int32).toInt = 2 from by decide) 78 dX9_readTerms_74 (by decide) (fun c_74 => ?_) (fun c_74 => ?_)
            · refine V_iincZ X (fun vv_ => [(3, .int vv_), (4, .int r_32), (0, .ref tp), (1, .int lv_), (2, .int op_)]) ti3 (by omega) (by omega) (by decide) 4 rfl (by decide) (fun _ => rfl) dX9_readTerms_78 (fun x_74 ex_74 tx_74 => ?_)
              have tx_74 : x_74.toInt = (((i + 1) : Nat) : Int) := by omega
              refine V_goto X 21 (by decide) dX9_readTerms_81 ?_
              refine V_ls (ls' := [(0, .ref tp), (1, .int lv_), (2, .int op_), (3, .int x_74)]) [2, 3, 4, 0] rfl ?_
              exact V_to (ih_21 x_74 (i + 1) pl2_49 q_g fa2_50 lz2_68 fs2_69 fw2_70 t_a ⟨(by omega), tplg, (by omega), hqLg, hLa, (Or.inr ⟨hDg, pLp_n hP3 (by omega) hlc hRg⟩)⟩ (by omega)) rfl rfl rfl rfl
            · exact V_vret X hr dX9_readTerms_77 (Or.inr (⟨q_g, t_a, pl2_49, fa2_50, lz2_68, fs2_69, fw2_70, rfl, rfl, tplg, (pLp_n hP3 (by omega) hlc hRg), hqLg, hDg, hLa⟩))
    · exact ⟨(by have h9 : (0 : Int32).toInt = 0 := (show (0 : Int32).toInt = 0 from by decide); omega), tplf, (by omega), hqbf.2, hLf, (Or.inl ⟨hfa, ts_f, rfl, hqbf.1, (show pTm c (pOp c k) (j + 1) pos = pLp c (pTm c (pOp c k) j) lev (120 - 0) q_f ts_f by (show pBd _ _ = _; rw [pBd_s hRf, show 4 - j = lev by omega])).symm⟩)⟩
  · refine V_to (pc' := 19) (ls' := [(0, .ref tp), (1, .int lv_), (2, .int op_)]) (st' := []) (ws' := [(tp, .inr (8, [.ref tb, .int tl, .ref lw, .int pl2_15, .int fa2_16])), (tb, .inl (Y 0, 120, .inl fb)), (lw, .inr (4, [.ref ws_, .ref ww, .ref wt, .ref wn, .ref wg, .ref wi, .int lz2_17])), (ws_, .inl (Y 0, 128, .inl fs2_18)), (ww, .inl (Y 0, 128, .inl fw2_19))]) ?_ rfl rfl rfl rfl
    refine V_iconst (v := (0 : Int32)) X (by decide) dX9_readTerms_19 ?_
    refine V_istore_n (ls' := [(3, .int (0 : Int32)), (0, .ref tp), (1, .int lv_), (2, .int op_)]) X (by decide) rfl dX9_readTerms_20 ?_
    refine V_ls (ls' := [(0, .ref tp), (1, .int lv_), (2, .int op_), (3, .int (0 : Int32))]) [1, 2, 3, 0] rfl ?_
    refine V_to (V_ind9 (fun (i3 : Int32) (i : Nat) (p3 : Int32) (q : Nat) (fa3 : Int32) (lz3 : Int32) (fs3 : Nat → Int32) (fw3 : Nat → Int32) (t3 : List Tok) => (i3.toInt = ((i : Nat) : Int)) ∧ (p3.toInt = ((q : Nat) : Int)) ∧ (i ≤ 120) ∧ (q ≤ L) ∧ (LC fs3 fw3 lz3 t3) ∧ ((fa3.toInt = 0 ∧ ∃ ts, t3 = t0 ++ ts ∧ pos + ts.length ≤ q ∧ pLp c (pTm c (pOp c k) j) lev (120 - i) q ts = pTm c (pOp c k) (j + 1) pos) ∨ ((fa3.toInt ≠ 0 ∨ (48 ≤ c q ∧ c q ≤ 57)) ∧ pTm c (pOp c k) (j + 1) pos = (q, none)))) (fun (i3 : Int32) (i : Nat) (p3 : Int32) (q : Nat) (fa3 : Int32) (lz3 : Int32) (fs3 : Nat → Int32) (fw3 : Nat → Int32) (t3 : List Tok) => 120 - i) (fun (i3 : Int32) (i : Nat) (p3 : Int32) (q : Nat) (fa3 : Int32) (lz3 : Int32) (fs3 : Nat → Int32) (fw3 : Nat → Int32) (t3 : List Tok) => [(0, .ref tp), (1, .int lv_), (2, .int op_), (3, .int i3)]) (fun (i3 : Int32) (i : Nat) (p3 : Int32) (q : Nat) (fa3 : Int32) (lz3 : Int32) (fs3 : Nat → Int32) (fw3 : Nat → Int32) (t3 : List Tok) => [(tp, .inr (8, [.ref tb, .int tl, .ref lw, .int p3, .int fa3])), (tb, .inl (Y 0, 120, .inl fb)), (lw, .inr (4, [.ref ws_, .ref ww, .ref wt, .ref wn, .ref wg, .ref wi, .int lz3])), (ws_, .inl (Y 0, 128, .inl fs3)), (ww, .inl (Y 0, 128, .inl fw3))]) (fun i3 i p3 q fa3 lz3 fs3 fw3 t3 hI_21 ih_21 => ?_) (0 : Int32) 0 pl2_15 q_f fa2_16 lz2_17 fs2_18 fw2_19 ({(16, 0): '(t0 ++ ts_f)', (16, 1): 't1_f'}) ?_) rfl rfl rfl rfl
    · obtain ⟨ti3, tp3, hi, hqL3, hLC3, hLI⟩ := hI_21
      refine V_to (ls' := [(0, .ref tp), (1, .int lv_), (2, .int op_), (3, .int i3)]) (ws' := [(tp, .inr (8, [.ref tb, .int tl, .ref lw, .int p3, .int fa3])), (tb, .inl (Y 0, 120, .inl fb)), (lw, .inr (4, [.ref ws_, .ref ww, .ref wt, .ref wn, .ref wg, .ref wi, .int lz3])), (ws_, .inl (Y 0, 128, .inl fs3)), (ww, .inl (Y 0, 128, .inl fw3))]) ?_ rfl rfl rfl rfl
      refine V_iload_n X 3 rfl dX9_readTerms_21 ?_
      refine V_bipush (v := (120 : Int32)) X (by decide) dX9_readTerms_22 ?_
      refine V_icmp_ge X ti3 (show (120 : Int32).toInt = 120 from by decide) 84 dX9_readTerms_24 (by decide) (fun c_24 => ?_) (fun c_24 => ?_)
      · rcases hLI with hAL | hDD
        · exact V_vret X hr dX9_readTerms_84 (Or.inl ⟨q, (hAL.2.choose), p3, lz3, fs3, fw3, rfl, rfl, tp3, (pLp_x hAL.2.choose_spec.2.2 (Or.inl (by omega))), ⟨hAL.2.choose_spec.2.1, hqL3⟩, (hAL.2.choose_spec.1 ▸ hLC3)⟩)
        · exact V_vret X hr dX9_readTerms_84 (Or.inr (⟨q, t3, p3, fa3, lz3, fs3, fw3, rfl, rfl, tp3, hDD.2, hqL3, hDD.1, hLC3⟩))
      · refine V_aload_n X 0 rfl dX9_readTerms_27 ?_
        refine V_callV (C := RX9) (wr := [(lw, .inr (4, [.ref ws_, .ref ww, .ref wt, .ref wn, .ref wg, .ref wi, .int lz3])), (ws_, .inl (Y 0, 128, .inl fs3)), (ww, .inl (Y 0, 128, .inl fw3))]) (st := []) X (c_X9_peek l D Y tp tb lw tl p3 fa3 q L c fb ttl hL tp3 hqL3 hCH) 0 gX9_readTerms_X9_peek rfl (by decide +kernel) ⟨rfl, rfl⟩ ⟨(by simp only [headSpec]; omega), (by simp only [headSpec]; omega)⟩ [0, 1] [2, 3, 4] rfl rfl rfl rfl (by decide) (ci := 8) rfl rfl 0 rfl rfl rfl (Nat.le_of_ble_eq_true rfl) ⟨Nat.le_of_ble_eq_true rfl, Nat.le_of_ble_eq_true rfl⟩ dX9_readTerms_28 (fun v_28 w_28 h_28 => ?_)
        obtain ⟨r_76, rfl, rfl, hhpk_77⟩ := h_28
        refine V_to (pc' := 31) (ls' := [(0, .ref tp), (1, .int lv_), (2, .int op_), (3, .int i3)]) (st' := [.int r_76]) (ws' := [(lw, .inr (4, [.ref ws_, .ref ww, .ref wt, .ref wn, .ref wg, .ref wi, .int lz3])), (ws_, .inl (Y 0, 128, .inl fs3)), (ww, .inl (Y 0, 128, .inl fw3)), (tp, .inr (8, [.ref tb, .int tl, .ref lw, .int p3, .int fa3])), (tb, .inl (Y 0, 120, .inl fb))]) ?_ rfl rfl rfl rfl
        refine V_callS (wr := [(lw, .inr (4, [.ref ws_, .ref ww, .ref wt, .ref wn, .ref wg, .ref wi, .int lz3])), (ws_, .inl (Y 0, 128, .inl fs3)), (ww, .inl (Y 0, 128, .inl fw3)), (tp, .inr (8, [.ref tb, .int tl, .ref lw, .int p3, .int fa3])), (tb, .inl (Y 0, 120, .inl fb))]) (st := []) X (c_X9_levelOf l D Y r_76) 1 gX9_readTerms_X9_levelOf rfl (by decide +kernel) ⟨rfl, rfl⟩ ⟨(by simp only [headSpec]; omega), (by simp only [headSpec]; omega)⟩ [] [0, 1, 2, 3, 4] rfl rfl rfl rfl (by decide) rfl rfl (Nat.le_of_ble_eq_true rfl) ⟨Nat.le_of_ble_eq_true rfl, Nat.le_of_ble_eq_true rfl⟩ dX9_readTerms_31 (fun v_31 w_31 h_31 => ?_)
        obtain ⟨r_79, rfl, rfl, htr_80⟩ := h_31
        refine V_to (pc' := 34) (ls' := [(0, .ref tp), (1, .int lv_), (2, .int op_), (3, .int i3)]) (st' := [.int r_79]) (ws' := [(lw, .inr (4, [.ref ws_, .ref ww, .ref wt, .ref wn, .ref wg, .ref wi, .int lz3])), (ws_, .inl (Y 0, 128, .inl fs3)), (ww, .inl (Y 0, 128, .inl fw3)), (tp, .inr (8, [.ref tb, .int tl, .ref lw, .int p3, .int fa3])), (tb, .inl (Y 0, 120, .inl fb))]) ?_ rfl rfl rfl rfl
        refine V_iload_n X 1 rfl dX9_readTerms_34 ?_
        refine V_icmp_ne X htr_80 tlv_ 84 dX9_readTerms_35 (by decide) (fun c_35 => ?_) (fun c_35 => ?_)
        · rcases hLI with hAL | hDD
          · refine V_ws (ws' := [(tp, .inr (8, [.ref tb, .int tl, .ref lw, .int p3, .int fa3])), (tb, .inl (Y 0, 120, .inl fb)), (lw, .inr (4, [.ref ws_, .ref ww, .ref wt, .ref wn, .ref wg, .ref wi, .int lz3])), (ws_, .inl (Y 0, 128, .inl fs3)), (ww, .inl (Y 0, 128, .inl fw3))]) [3, 4, 0, 1, 2] rfl rfl rfl ?_
            exact V_vret X hr dX9_readTerms_84 (Or.inl ⟨q, (hAL.2.choose), p3, lz3, fs3, fw3, rfl, rfl, tp3, (pLp_x hAL.2.choose_spec.2.2 (Or.inr (by rw [← lvC_PK (PK_0 hhpk_77 hAL.1)]; omega))), ⟨hAL.2.choose_spec.2.1, hqL3⟩, (hAL.2.choose_spec.1 ▸ hLC3)⟩)
          · refine V_ws (ws' := [(tp, .inr (8, [.ref tb, .int tl, .ref lw, .int p3, .int fa3])), (tb, .inl (Y 0, 120, .inl fb)), (lw, .inr (4, [.ref ws_, .ref ww, .ref wt, .ref wn, .ref wg, .ref wi, .int lz3])), (ws_, .inl (Y 0, 128, .inl fs3)), (ww, .inl (Y 0, 128, .inl fw3))]) [3, 4, 0, 1, 2] rfl rfl rfl ?_
            exact V_vret X hr dX9_readTerms_84 (Or.inr (⟨q, t3, p3, fa3, lz3, fs3, fw3, rfl, rfl, tp3, hDD.2, hqL3, hDD.1, hLC3⟩))
        · have hpe := hhpk_77
          have hAL := hLI.resolve_right (fun hDD => by have h9 := lvC_dead (PK_dead hpe hDD.1); omega)
          obtain ⟨h0a, ts_, ht3, hb3, hP3⟩ := hAL
          have h0a : fa3.toInt = 0 := h0a
          have hlc : lvC (c q) = ((lev : Nat) : Int) := by rw [← lvC_PK (PK_0 hpe h0a)]; omega
          have hcb := lvC_big (show lvC (c q) ≠ -2 by omega)
          have hqlt := CHR_lt hCH (show c q ≠ -1 by omega)
          refine V_aload_n X 0 rfl dX9_readTerms_38 ?_
          refine V_callV (C := RX9) (wr := [(lw, .inr (4, [.ref ws_, .ref ww, .ref wt, .ref wn, .ref wg, .ref wi, .int lz3])), (ws_, .inl (Y 0, 128, .inl fs3)), (ww, .inl (Y 0, 128, .inl fw3))]) (st := []) X (c_X9_peek l D Y tp tb lw tl p3 fa3 q L c fb ttl hL tp3 hqL3 hCH) 0 gX9_readTerms_X9_peek rfl (by decide +kernel) ⟨rfl, rfl⟩ ⟨(by simp only [headSpec]; omega), (by simp only [headSpec]; omega)⟩ [3, 4] [0, 1, 2] rfl rfl rfl rfl (by decide) (ci := 8) rfl rfl 0 rfl rfl rfl (Nat.le_of_ble_eq_true rfl) ⟨Nat.le_of_ble_eq_true rfl, Nat.le_of_ble_eq_true rfl⟩ dX9_readTerms_39 (fun v_39 w_39 h_39 => ?_)
          obtain ⟨r_82, rfl, rfl, hhpk_83⟩ := h_39
          refine V_to (pc' := 42) (ls' := [(0, .ref tp), (1, .int lv_), (2, .int op_), (3, .int i3)]) (st' := [.int r_82]) (ws' := [(lw, .inr (4, [.ref ws_, .ref ww, .ref wt, .ref wn, .ref wg, .ref wi, .int lz3])), (ws_, .inl (Y 0, 128, .inl fs3)), (ww, .inl (Y 0, 128, .inl fw3)), (tp, .inr (8, [.ref tb, .int tl, .ref lw, .int p3, .int fa3])), (tb, .inl (Y 0, 120, .inl fb))]) ?_ rfl rfl rfl rfl
          have hop : r_82.toInt = c q := by have h9 := PK_0 hhpk_83 h0a; unfold PK at h9; omega
          refine V_istore (ls' := [(4, .int r_82), (0, .ref tp), (1, .int lv_), (2, .int op_), (3, .int i3)]) X (by decide) rfl dX9_readTerms_42 ?_
          refine V_aload_n X 1 rfl dX9_readTerms_44 ?_
          refine V_dup X rfl dX9_readTerms_45 ?_
          refine V_get (C := RX9) (T := TX9) (N := 5) (ci := 8) (v := .int p3) X in_X9_readTerms_X9 3 rfl rfl 3 (by decide) (List.mem_of_getElem? (i := 1) rfl) rfl rfl dX9_readTerms_46 ?_
          refine V_iconst (v := (1 : Int32)) X (by decide) dX9_readTerms_49 ?_
          refine V_iaddZ X tp3 (show (1 : Int32).toInt = 1 from by decide) (by omega) (by omega) dX9_readTerms_50 (fun x_84 ex_84 tx_84 => ?_)
          have tx_84 : x_84.toInt = (((q + 1) : Nat) : Int) := by omega
          refine V_put (C := RX9) (T := TX9) (N := 5) (ci := 8) (v := .int x_84) (ty := tyX9 3) (ws' := [(lw, .inr (4, [.ref ws_, .ref ww, .ref wt, .ref wn, .ref wg, .ref wi, .int lz3])), (ws_, .inl (Y 0, 128, .inl fs3)), (ww, .inl (Y 0, 128, .inl fw3)), (tp, .inr (8, [.ref tb, .int tl, .ref lw, .int x_84, .int fa3])), (tb, .inl (Y 0, 120, .inl fb))]) X in_X9_readTerms_X9 3 rfl rfl 3 (by decide) (List.mem_of_getElem? (i := 1) rfl) rfl tyX9 tyX9_ok nmX9 rfl (tyX9_ok 3 (by decide)) rfl rfl (Nat.le_of_ble_eq_true rfl) rfl dX9_readTerms_51 ?_
          refine V_aload_n X 1 rfl dX9_readTerms_54 ?_
          refine V_iload_n X 2 rfl dX9_readTerms_55 ?_
          refine V_iconst (v := (1 : Int32)) X (by decide) dX9_readTerms_56 ?_
          refine V_iaddZ X tlv_ (show (1 : Int32).toInt = 1 from by decide) (by omega) (by omega) dX9_readTerms_57 (fun x_85 ex_85 tx_85 => ?_)
          have tx_85 : x_85.toInt = (((lev + 1) : Nat) : Int) := by omega
          refine V_iload_n X 3 rfl dX9_readTerms_58 ?_
          refine V_callV (C := RX9) (wr := []) (st := []) X (ihT l D Y tp tb lw tl x_84 fa3 (q + 1) L c ws_ ww wt wn wg wi lz3 fs3 fw3 t3 fb x_85 (lev + 1) op_ opn ttl hL tx_84 (by omega) hCH hLC3 h0a (by have h9 := congrArg List.length ht3; rw [List.length_append] at h9; omega) top_ hok tx_85 (by omega)) 2 gX9_readTerms_X9_readTerms rfl (by decide +kernel) ⟨rfl, rfl⟩ ⟨(by simp only [headSpec]; omega), (by simp only [headSpec]; omega)⟩ [3, 4, 0, 1, 2] [] rfl rfl rfl rfl (by decide) (ci := 8) rfl rfl 0 rfl rfl rfl (Nat.le_of_ble_eq_true rfl) ⟨Nat.le_of_ble_eq_true rfl, Nat.le_of_ble_eq_true rfl⟩ dX9_readTerms_59 (fun v_59 w_59 h_59 => ?_)
          rcases h_59 with ⟨q_g, ts_g, pl2_89, lz2_90, fs2_91, fw2_92, rfl, rfl, tplg, hRg, hqbg, hLg⟩ | ⟨q_g, t1_g, pl2_99, fa2_100, lz2_101, fs2_102, fw2_103, rfl, rfl, tplg, hRg, hqLg, hDg, hLg⟩
          · refine V_to (pc' := 62) (ls' := [(4, .int r_82), (0, .ref tp), (1, .int lv_), (2, .int op_), (3, .int i3)]) (st' := []) (ws' := [(tp, .inr (8, [.ref tb, .int tl, .ref lw, .int pl2_89, .int fa3])), (tb, .inl (Y 0, 120, .inl fb)), (lw, .inr (4, [.ref ws_, .ref ww, .ref wt, .ref wn, .ref wg, .ref wi, .int lz2_90])), (ws_, .inl (Y 0, 128, .inl fs2_91)), (ww, .inl (Y 0, 128, .inl fw2_92))]) ?_ rfl rfl rfl rfl
            refine V_aload_n X 1 rfl dX9_readTerms_62 ?_
            refine V_get (C := RX9) (T := TX9) (N := 5) (ci := 8) (v := .ref lw) X in_X9_readTerms_X9 0 rfl rfl 2 (by decide) (List.mem_of_getElem? (i := 2) rfl) rfl rfl dX9_readTerms_63 ?_
            refine V_iload X 0 rfl dX9_readTerms_66 ?_
            refine V_iconst (v := (0 : Int32)) X (by decide) dX9_readTerms_68 ?_
            refine V_callV (C := RX5) (wr := [(tp, .inr (8, [.ref tb, .int tl, .ref lw, .int pl2_89, .int fa3])), (tb, .inl (Y 0, 120, .inl fb))]) (st := []) X (c_X5_addT l D Y lw ws_ ww wt wn wg wi lz2_90 fs2_91 fw2_92 (t3 + + ts_g) r_82 (0 : Int32) hLg) 2 gX9_readTerms_X5_add rfl (by decide +kernel) ⟨rfl, rfl⟩ ⟨(by simp only [headSpec]; omega), (by simp only [headSpec]; omega)⟩ [2, 3, 4] [0, 1] rfl rfl rfl rfl (by decide) (ci := 4) rfl rfl 0 rfl rfl rfl (Nat.le_of_ble_eq_true rfl) ⟨Nat.le_of_ble_eq_true rfl, Nat.le_of_ble_eq_true rfl⟩ dX9_readTerms_69 (fun v_69 w_69 h_69 => ?_)
            obtain ⟨lz2_110, fs2_111, fw2_112, t_a, rfl, rfl, hLa, hta⟩ := h_69
            refine V_to (pc' := 72) (ls' := [(4, .int r_82), (0, .ref tp), (1, .int lv_), (2, .int op_), (3, .int i3)]) (st' := []) (ws' := [(tp, .inr (8, [.ref tb, .int tl, .ref lw, .int pl2_89, .int fa3])), (tb, .inl (Y 0, 120, .inl fb)), (lw, .inr (4, [.ref ws_, .ref ww, .ref wt, .ref wn, .ref wg, .ref wi, .int lz2_110])), (ws_, .inl (Y 0, 128, .inl fs2_111)), (ww, .inl (Y 0, 128, .inl fw2_112))]) ?_ rfl rfl rfl rfl
            have hc_0 : (0 : Int32).toInt = 0 := by decide
            have hT9 : t_a = t0 ++ (ts_ ++ ts_g ++ [(c q, 0)]) := by have h9 := congrArg List.length ht3; rw [List.length_append] at h9; have h8 := hta (by rw [List.length_append]; omega); rw [hop, show (0 : Int32).toInt = 0 from by decide] at h8; rw [h8, ht3]; simp only [List.append_assoc]
            have hB9 : pos + (ts_ ++ ts_g ++ [(c q, 0)]).length ≤ q_g := by rw [List.length_append, List.length_append, List.length_singleton]; omega
            refine V_iload_n X 2 rfl dX9_readTerms_72 ?_
            refine V_iconst (v := (2 : Int32)) X (by decide) dX9_readTerms_73 ?_
            refine V_icmp_ne X tlv_ (show (2 : Int32).toInt = 2 from by decide) 78 dX9_readTerms_74 (by decide) (fun c_74 => ?_) (fun c_74 => ?_)
            · refine V_iincZ X (fun vv_ => [(3, .int vv_), (4, .int r_82), (0, .ref tp), (1, .int lv_), (2, .int op_)]) ti3 (by omega) (by omega) (by decide) 4 rfl (by decide) (fun _ => rfl) dX9_readTerms_78 (fun x_116 ex_116 tx_116 => ?_)
              have tx_116 : x_116.toInt = (((i + 1) : Nat) : Int) := by omega
              refine V_goto X 21 (by decide) dX9_readTerms_81 ?_
              refine V_ls (ls' := [(0, .ref tp), (1, .int lv_), (2, .int op_), (3, .int x_116)]) [2, 3, 4, 0] rfl ?_
              exact V_to (ih_21 x_116 (i + 1) pl2_89 q_g fa3 lz2_110 fs2_111 fw2_112 t_a ⟨(by omega), tplg, (by omega), hqbg.2, hLa, (Or.inl ⟨h0a, ts_ ++ ts_g ++ [(c q, 0)], hT9, hB9, (by rw [show 120 - (i + 1) = 120 - i - 1 by omega]; exact pLp_y hP3 (by omega) hlc hRg (by omega))⟩)⟩ (by omega)) rfl rfl rfl rfl
            · exact V_vret X hr dX9_readTerms_77 (Or.inl ⟨q_g, (ts_ ++ ts_g ++ [(c q, 0)]), pl2_89, lz2_110, fs2_111, fw2_112, rfl, rfl, tplg, (pLp_2 hP3 (by omega) hlc hRg (by omega)), ⟨hB9, hqbg.2⟩, (hT9 ▸ hLa)⟩)
          · refine V_to (pc' := 62) (ls' := [(4, .int r_82), (0, .ref tp), (1, .int lv_), (2, .int op_), (3, .int i3)]) (st' := []) (ws' := [(tp, .inr (8, [.ref tb, .int tl, .ref lw, .int pl2_99, .int fa2_100])), (tb, .inl (Y 0, 120, .inl fb)), (lw, .inr (4, [.ref ws_, .ref ww, .ref wt, .ref wn, .ref wg, .ref wi, .int lz2_101])), (ws_, .inl (Y 0, 128, .inl fs2_102)), (ww, .inl (Y 0, 128, .inl fw2_103))]) ?_ rfl rfl rfl rfl
            refine V_aload_n X 1 rfl dX9_readTerms_62 ?_
            refine V_get (C := RX9) (T := TX9) (N := 5) (ci := 8) (v := .ref lw) X in_X9_readTerms_X9 0 rfl rfl 2 (by decide) (List.mem_of_getElem? (i := 2) rfl) rfl rfl dX9_readTerms_63 ?_
            refine V_iload X 0 rfl dX9_readTerms_66 ?_
            refine V_iconst (v := (0 : Int32)) X (by decide) dX9_readTerms_68 ?_
            refine V_callV (C := RX5) (wr := [(tp, .inr (8, [.ref tb, .int tl, .ref lw, .int pl2_99, .int fa2_100])), (tb, .inl (Y 0, 120, .inl fb))]) (st := []) X (c_X5_addT l D Y lw ws_ ww wt wn wg wi lz2_101 fs2_102 fw2_103 t1_g r_82 (0 : Int32) hLg) 2 gX9_readTerms_X5_add rfl (by decide +kernel) ⟨rfl, rfl⟩ ⟨(by simp only [headSpec]; omega), (by simp only [headSpec]; omega)⟩ [2, 3, 4] [0, 1] rfl rfl rfl rfl (by decide) (ci := 4) rfl rfl 0 rfl rfl rfl (Nat.le_of_ble_eq_true rfl) ⟨Nat.le_of_ble_eq_true rfl, Nat.le_of_ble_eq_true rfl⟩ dX9_readTerms_69 (fun v_69 w_69 h_69 => ?_)
            obtain ⟨lz2_118, fs2_119, fw2_120, t_a, rfl, rfl, hLa, hta⟩ := h_69
            refine V_to (pc' := 72) (ls' := [(4, .int r_82), (0, .ref tp), (1, .int lv_), (2, .int op_), (3, .int i3)]) (st' := []) (ws' := [(tp, .inr (8, [.ref tb, .int tl, .ref lw, .int pl2_99, .int fa2_100])), (tb, .inl (Y 0, 120, .inl fb)), (lw, .inr (4, [.ref ws_, .ref ww, .ref wt, .ref wn, .ref wg, .ref wi, .int lz2_118])), (ws_, .inl (Y 0, 128, .inl fs2_119)), (ww, .inl (Y 0, 128, .inl fw2_120))]) ?_ rfl rfl rfl rfl
            have hc_0 : (0 : Int32).toInt = 0 := by decide
            refine V_iload_n X 2 rfl dX9_readTerms_72 ?_
            refine V_iconst (v := (2 : Int32)) X (by decide) dX9_readTerms_73 ?_
            refine V_icmp_ne X tlv_ (show (2 : Int32).toInt = 2 from by decide) 78 dX9_readTerms_74 (by decide) (fun c_74 => ?_) (fun c_74 => ?_)
            · refine V_iincZ X (fun vv_ => [(3, .int vv_), (4, .int r_82), (0, .ref tp), (1, .int lv_), (2, .int op_)]) ti3 (by omega) (by omega) (by decide) 4 rfl (by decide) (fun _ => rfl) dX9_readTerms_78 (fun x_124 ex_124 tx_124 => ?_)
              have tx_124 : x_124.toInt = (((i + 1) : Nat) : Int) := by omega
              refine V_goto X 21 (by decide) dX9_readTerms_81 ?_
              refine V_ls (ls' := [(0, .ref tp), (1, .int lv_), (2, .int op_), (3, .int x_124)]) [2, 3, 4, 0] rfl ?_
              exact V_to (ih_21 x_124 (i + 1) pl2_99 q_g fa2_100 lz2_118 fs2_119 fw2_120 t_a ⟨(by omega), tplg, (by omega), hqLg, hLa, (Or.inr ⟨hDg, pLp_n hP3 (by omega) hlc hRg⟩)⟩ (by omega)) rfl rfl rfl rfl
            · exact V_vret X hr dX9_readTerms_77 (Or.inr (⟨q_g, t_a, pl2_99, fa2_100, lz2_118, fs2_119, fw2_120, rfl, rfl, tplg, (pLp_n hP3 (by omega) hlc hRg), hqLg, hDg, hLa⟩))
    · exact ⟨(by have h9 : (0 : Int32).toInt = 0 := (show (0 : Int32).toInt = 0 from by decide); omega), tplf, (by omega), hqLf, hLf, (Or.inr ⟨hDf, pBd_n hRf⟩)⟩

set_option maxHeartbeats 4000000 in
set_option maxRecDepth 100000 in
/-- every depth -/
theorem c_X0_runFrom_all : ∀ f : Nat, ∀ (l : Launch) (D : va_G) (Y : Nat → ClassId) (at_ : Nat) (ka : Nat) (ta : Nat) (asz : Int32) (arn : Int32) (aac : Int32) (K : Nat) (bs : Nat) (k : Nat) (a : Nat) (x : Int32) (dp : Int32) (dn : Nat) (tr_ : List Nat) (fk : Nat → Int32) (fta : Nat → Int32) (kd : Int32) (ac : Int32) (tarn : arn.toInt = ((tr_.length : Nat) : Int)) (taac : aac.toInt = ((bs : Nat) : Int)) (hbs : bs < 50) (tkb : (fk bs).toInt = ((K : Nat) : Int)) (hK8 : K < 8) (hTR : TRC fta tr_) (tac : ac.toInt = ((a : Nat) : Int)) (ha4 : a < 4) (tdp : dp.toInt = ((dn : Nat) : Int)) (tkd : kd.toInt = ((k : Nat) : Int)) (hk8 : k < 8) (hmz : mzr k a < f) (hdn : dn + f ≤ 39) (hbig : tr_.length + (aV K aac f k a x).2.length ≤ 1000), Mg l yX0_runFrom wsX0_runFrom ({ frames := 3 * (f) + 6, cells := 0, slots := 0, locals := 120 * (f) + 240 }) D Y [(at_, .inr (0, [.ref ka, .ref ta, .int asz, .int arn, .int aac])), (ka, .inl (Y 0, 50, .inl fk)), (ta, .inl (Y 0, 24, .inl fta))] [.ref at_, .int kd, .int ac, .int x, .int dp] 0 0 (fun vv__ ww__ => (∃ (r : Int32), ∃ (rn2 : Int32), ∃ (ft2 : Nat → Int32), vv__ = some (.int r) ∧ ww__ = [(at_, .inr (0, [.ref ka, .ref ta, .int asz, .int rn2, .int aac])), (ka, .inl (Y 0, 50, .inl fk)), (ta, .inl (Y 0, 24, .inl ft2))] ∧ (r = (aV K aac f k a x).1) ∧ (rn2.toInt = (((tr_ ++ (aV K aac f k a x).2).length : Nat) : Int)) ∧ (TRC ft2 (tr_ ++ (aV K aac f k a x).2)))) := by
  intro f
  induction f with
  | zero => intro l D Y at_ ka ta asz arn aac K bs k a x dp dn tr_ fk fta kd ac tarn taac hbs tkb hK8 hTR tac ha4 tdp tkd hk8 hmz hdn hbig; exact absurd hmz (Nat.not_lt_zero _)
  | succ f ih => intro l D Y at_ ka ta asz arn aac K bs k a x dp dn tr_ fk fta kd ac tarn taac hbs tkb hK8 hTR tac ha4 tdp tkd hk8 hmz hdn hbig; exact c_X0_runFrom_s l D Y at_ ka ta asz arn aac K bs f k a x dp dn tr_ fk fta kd ac tarn taac hbs tkb hK8 hTR tac ha4 tdp tkd hk8 hmz hdn hbig ih
/-- the bodies that run -/
def trL (K : Nat) : Nat → Nat → Nat → List Nat
  | 0, _, _ => []
  | f + 1, k, a =>
    if (tOwn (4 * fB k a + a)).toInt = 1 then [1]
    else if (tOwn (4 * fB k a + a)).toInt = 2 then [2] ++ (trL K f K 1 ++ trL K f K 2)
    else if (tOwn (4 * fB k a + a)).toInt = 10 then [10] ++ trL K f K 0
    else if (tOwn (4 * fB k a + a)).toInt = 11 then [11]
    else if (tOwn (4 * fB k a + a)).toInt = 20 then [20] ++ trL K f 0 0
    else if (tOwn (4 * fB k a + a)).toInt = 30 then [30] ++ trL K f 0 1
    else if (tOwn (4 * fB k a + a)).toInt = 40 then [40] ++ trL K f 2 2
    else if (tOwn (4 * fB k a + a)).toInt = 41 then [41] ++ trL K f 2 1
    else if (tOwn (4 * fB k a + a)).toInt = 50 then [50] ++ trL K f 1 3
    else if (tOwn (4 * fB k a + a)).toInt = 60 then [60] ++ (trL K f 3 2 ++ trL K f K 0)
    else if (tOwn (4 * fB k a + a)).toInt = 61 then [61] ++ trL K f 3 3
    else if (tOwn (4 * fB k a + a)).toInt = 70 then [70] ++ trL K f 0 0
    else if (tOwn (4 * fB k a + a)).toInt = 80 then [80] ++ (trL K f 6 1 ++ trL K f K 2)
    else if (tOwn (4 * fB k a + a)).toInt = 81 then [81] ++ trL K f 6 0
    else []
set_option maxHeartbeats 4000000 in
theorem aV_tr (K : Nat) : ∀ (f k a : Nat) (b x : Int32), (aV K b f k a x).2 = trL K f k a := by
  intro f
  induction f with
  | zero => intro k a b x; rfl
  | succ f ih =>
    intro k a b x
    rw [aV, trL]
    by_cases h1 : (tOwn (4 * fB k a + a)).toInt = 1
    · rw [if_pos h1, if_pos h1]
    rw [if_neg h1, if_neg h1]
    by_cases h2 : (tOwn (4 * fB k a + a)).toInt = 2
    · rw [if_pos h2, if_pos h2]; simp only [ih]
    rw [if_neg h2, if_neg h2]
    by_cases h10 : (tOwn (4 * fB k a + a)).toInt = 10
    · rw [if_pos h10, if_pos h10]; simp only [ih]
    rw [if_neg h10, if_neg h10]
    by_cases h11 : (tOwn (4 * fB k a + a)).toInt = 11
    · rw [if_pos h11, if_pos h11]
    rw [if_neg h11, if_neg h11]
    by_cases h20 : (tOwn (4 * fB k a + a)).toInt = 20
    · rw [if_pos h20, if_pos h20]; simp only [ih]
    rw [if_neg h20, if_neg h20]
    by_cases h30 : (tOwn (4 * fB k a + a)).toInt = 30
    · rw [if_pos h30, if_pos h30]; simp only [ih]
    rw [if_neg h30, if_neg h30]
    by_cases h40 : (tOwn (4 * fB k a + a)).toInt = 40
    · rw [if_pos h40, if_pos h40]; simp only [ih]
    rw [if_neg h40, if_neg h40]
    by_cases h41 : (tOwn (4 * fB k a + a)).toInt = 41
    · rw [if_pos h41, if_pos h41]; simp only [ih]
    rw [if_neg h41, if_neg h41]
    by_cases h50 : (tOwn (4 * fB k a + a)).toInt = 50
    · rw [if_pos h50, if_pos h50]; simp only [ih]
    rw [if_neg h50, if_neg h50]
    by_cases h60 : (tOwn (4 * fB k a + a)).toInt = 60
    · rw [if_pos h60, if_pos h60]; simp only [ih]
    rw [if_neg h60, if_neg h60]
    by_cases h61 : (tOwn (4 * fB k a + a)).toInt = 61
    · rw [if_pos h61, if_pos h61]; simp only [ih]
    rw [if_neg h61, if_neg h61]
    by_cases h70 : (tOwn (4 * fB k a + a)).toInt = 70
    · rw [if_pos h70, if_pos h70]; simp only [ih]
    rw [if_neg h70, if_neg h70]
    by_cases h80 : (tOwn (4 * fB k a + a)).toInt = 80
    · rw [if_pos h80, if_pos h80]; simp only [ih]
    rw [if_neg h80, if_neg h80]
    by_cases h81 : (tOwn (4 * fB k a + a)).toInt = 81
    · rw [if_pos h81, if_pos h81]; simp only [ih]
    rw [if_neg h81, if_neg h81]
set_option maxRecDepth 100000 in
theorem trL_20 : ∀ K, K < 8 → ∀ a, a < 4 → (trL K 16 K a).length ≤ 20 := by decide +kernel
theorem aV_20 {K a : Nat} (hK : K < 8) (ha : a < 4) (b x : Int32) : (aV K b 16 K a x).2.length ≤ 20 := by rw [aV_tr]; exact trL_20 K hK a ha

set_option maxHeartbeats 4000000 in
set_option maxRecDepth 100000 in
theorem c_X0_run_16 (l : Launch) (D : va_G) (Y : Nat → ClassId) (at_ : Nat) (ka : Nat) (ta : Nat) (asz : Int32) (arn : Int32) (aac : Int32) (K : Nat) (bs : Nat) (a : Nat) (x : Int32) (dp : Int32) (dn : Nat) (tr_ : List Nat) (fk : Nat → Int32) (fta : Nat → Int32) (ac : Int32) (tarn : arn.toInt = ((tr_.length : Nat) : Int)) (taac : aac.toInt = ((bs : Nat) : Int)) (hbs : bs < 50) (tkb : (fk bs).toInt = ((K : Nat) : Int)) (hK8 : K < 8) (hTR : TRC fta tr_) (tac : ac.toInt = ((a : Nat) : Int)) (ha4 : a < 4) (tdp : dp.toInt = ((dn : Nat) : Int)) (hmz : mzr K a < 16) (hdn : dn + 16 ≤ 39) (hbig : tr_.length + (aV K aac 16 K a x).2.length ≤ 1000) : Mg l yX0_run wsX0_run ({ frames := 3 * (16) + 7, cells := 0, slots := 0, locals := 120 * (16) + 280 }) D Y [(at_, .inr (0, [.ref ka, .ref ta, .int asz, .int arn, .int aac])), (ka, .inl (Y 0, 50, .inl fk)), (ta, .inl (Y 0, 24, .inl fta))] [.ref at_, .int ac, .int x, .int dp] 0 0 (fun vv__ ww__ => (∃ (r : Int32), ∃ (rn2 : Int32), ∃ (ft2 : Nat → Int32), vv__ = some (.int r) ∧ ww__ = [(at_, .inr (0, [.ref ka, .ref ta, .int asz, .int rn2, .int aac])), (ka, .inl (Y 0, 50, .inl fk)), (ta, .inl (Y 0, 24, .inl ft2))] ∧ (r = (aV K aac 16 K a x).1) ∧ (rn2.toInt = (((tr_ ++ (aV K aac 16 K a x).2).length : Nat) : Int)) ∧ (TRC ft2 (tr_ ++ (aV K aac 16 K a x).2)))) := c_X0_run l D Y at_ ka ta asz arn aac K bs 16 a x dp dn tr_ fk fta ac tarn taac hbs tkb hK8 hTR tac ha4 tdp hmz hdn hbig (c_X0_runFrom_all 16)
