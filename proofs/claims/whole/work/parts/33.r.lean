
/-! ===== a TEXT, as it is read: bytes as the reader sees them (c), what comes (places, steps) ===== -/
abbrev Tok : Type := Int × Int
abbrev PRs : Type := Nat × Option (List Tok)
def lvC (c : Int) : Int := if c = 124 then 0 else if c = 38 then 1 else if c = 60 ∨ c = 61 ∨ c = 62 then 2 else if c = 43 ∨ c = 45 then 3 else if c = 42 ∨ c = 47 ∨ c = 37 then 4 else -2
def nmC (c : Int) : Int := if c = 97 then 0 else if c = 116 then 1 else if c = 119 then 2 else if c = 114 then 3 else if c = 115 then 4 else if c = 107 then 5 else -1
def dgC (c : Int) : Prop := 48 ≤ c ∧ c ≤ 57
/-- what is seen: e, or no sign at all (-1) where the byte is none of ASCII -/
def PK (x : Int32) (e : Int) : Prop := x.toInt = e ∨ (e = -1 ∧ 128 ≤ x.toInt)
def CHR (fb : Nat → Int32) (L : Nat) (c : Nat → Int) : Prop := ∀ j, (j < L → PK (fb j) (c j)) ∧ (L ≤ j → c j = -1)
def eff (c : Nat → Int) (fa : Int32) (pos : Nat) : Int := if fa.toInt = 0 then c pos else -1
theorem eff_0 {c : Nat → Int} {fa : Int32} {pos : Nat} (h : fa.toInt = 0) : eff c fa pos = c pos := by unfold eff; rw [if_pos h]
theorem eff_f {c : Nat → Int} {fa : Int32} {pos : Nat} (h : fa.toInt ≠ 0) : eff c fa pos = -1 := by unfold eff; rw [if_neg h]
theorem PK_0 {c : Nat → Int} {fa x : Int32} {pos : Nat} (h : PK x (eff c fa pos)) (h0 : fa.toInt = 0) : PK x (c pos) := by rw [eff_0 h0] at h; exact h
theorem PK_dead {c : Nat → Int} {fa x : Int32} {pos : Nat} (h : PK x (eff c fa pos)) (hd : fa.toInt ≠ 0 ∨ (48 ≤ c pos ∧ c pos ≤ 57)) : x.toInt = -1 ∨ 128 ≤ x.toInt ∨ (48 ≤ x.toInt ∧ x.toInt ≤ 57) := by
  unfold PK eff at h
  split at h <;> omega
theorem lvC_dead {v : Int} (h : v = -1 ∨ 128 ≤ v ∨ (48 ≤ v ∧ v ≤ 57)) : lvC v = -2 := by
  unfold lvC
  rw [if_neg (by omega), if_neg (by omega), if_neg (by omega), if_neg (by omega), if_neg (by omega)]
theorem lvC_PK {x : Int32} {e : Int} (h : PK x e) : lvC x.toInt = lvC e := by
  rcases h with h | ⟨h1, h2⟩
  · rw [h]
  · rw [h1, lvC_dead (Or.inr (Or.inl h2)), lvC_dead (Or.inl rfl)]
theorem lvC_big {v : Int} (h : lvC v ≠ -2) : 0 ≤ v ∧ v < 128 := by
  unfold lvC at h
  (repeat' split at h) <;> omega
theorem nmC_PK {x : Int32} {e : Int} (h : PK x e) : nmC x.toInt = nmC e := by
  rcases h with h | ⟨h1, h2⟩
  · rw [h]
  · rw [h1]; unfold nmC
    rw [if_neg (by omega), if_neg (by omega), if_neg (by omega), if_neg (by omega), if_neg (by omega), if_neg (by omega)]; decide
theorem nmC_big {v : Int} (h : 0 ≤ nmC v) : 97 ≤ v ∧ v < 128 ∧ nmC v < 6 := by
  unfold nmC at h ⊢
  (repeat' split at h) <;> omega
theorem CHR_lt {fb : Nat → Int32} {L : Nat} {c : Nat → Int} (h : CHR fb L c) {q : Nat} (h0 : c q ≠ -1) : q < L := by
  rcases Nat.lt_or_ge q L with g | g
  · exact g
  · exact absurd ((h q).2 g) h0
/-- what peek answers -/
def pkv (fb : Nat → Int32) (L : Nat) (fa : Int32) (pos : Nat) : Int32 := if fa.toInt ≠ 0 ∨ L ≤ pos then -1 else fb pos
def pDg (c : Nat → Int) : Nat → Nat → Int → Nat × Int
  | 0, q, v => (q, v)
  | n + 1, q, v => if 48 ≤ c q ∧ c q ≤ 57 then pDg c n (q + 1) (v * 10 + c q - 48) else (q, v)
def pFig (c : Nat → Int) (pos : Nat) : PRs := if 48 ≤ c (pDg c 4 pos 0).1 ∧ c (pDg c 4 pos 0).1 ≤ 57 then ((pDg c 4 pos 0).1, none) else ((pDg c 4 pos 0).1, some [(48, (pDg c 4 pos 0).2)])
def pBd (r : PRs) (g : Nat → List Tok → PRs) : PRs := match r.2 with
  | none => (r.1, none)
  | some ts => g r.1 ts
def pLp (c : Nat → Int) (sub : Nat → PRs) (lev : Nat) : Nat → Nat → List Tok → PRs
  | 0, q, ts => (q, some ts)
  | n + 1, q, ts => if lvC (c q) = (lev : Int) then pBd (sub (q + 1)) (fun q2 t2 => if lev = 2 then (q2, some (ts ++ t2 ++ [(c q, 0)])) else pLp c sub lev n q2 (ts ++ t2 ++ [(c q, 0)])) else (q, some ts)
def pTm (c : Nat → Int) (po : Nat → PRs) : Nat → Nat → PRs
  | 0 => po
  | j + 1 => fun pos => pBd (pTm c po j pos) (fun q ts => pLp c (pTm c po j) (4 - j) 120 q ts)
def pPa (c : Nat → Int) (r : PRs) : PRs := pBd r (fun q ts => if c q = 41 then (q + 1, some ts) else (q, none))
def pNe (v : Int) (r : PRs) : PRs := pBd r (fun q ts => (q, some (ts ++ [(v, 0)])))
def pOp (c : Nat → Int) : Nat → Nat → PRs
  | 0 => fun pos => if 48 ≤ c pos ∧ c pos ≤ 57 then pFig c pos else if 0 ≤ nmC (c pos) then (pos + 1, some [(97, nmC (c pos))]) else (pos, none)
  | k + 1 => fun pos => if 48 ≤ c pos ∧ c pos ≤ 57 then pFig c pos else if 0 ≤ nmC (c pos) then (pos + 1, some [(97, nmC (c pos))])
      else if c pos = 40 then pPa c (pTm c (pOp c k) 5 (pos + 1)) else if c pos = 33 ∨ c pos = 45 then pNe (if c pos = 45 then 126 else 33) (pOp c k (pos + 1)) else (pos, none)
theorem pBd_n {r : PRs} {g : Nat → List Tok → PRs} {q : Nat} (h : r = (q, none)) : pBd r g = (q, none) := by rw [h]; rfl
theorem pBd_s {r : PRs} {g : Nat → List Tok → PRs} {q : Nat} {ts : List Tok} (h : r = (q, some ts)) : pBd r g = g q ts := by rw [h]; rfl
theorem pLp_x {c : Nat → Int} {sub : Nat → PRs} {lev n q : Nat} {ts : List Tok} {P : PRs} (h : pLp c sub lev n q ts = P) (hc : n = 0 ∨ lvC (c q) ≠ (lev : Int)) : P = (q, some ts) := by
  cases n with
  | zero => exact h.symm
  | succ n => rw [pLp, if_neg (hc.resolve_left (Nat.succ_ne_zero n))] at h; exact h.symm
theorem pLp_n {c : Nat → Int} {sub : Nat → PRs} {lev n q q2 : Nat} {ts : List Tok} {P : PRs} (h : pLp c sub lev n q ts = P) (hn : 0 < n) (hc : lvC (c q) = (lev : Int)) (hs : sub (q + 1) = (q2, none)) : P = (q2, none) := by
  cases n with
  | zero => omega
  | succ n => rw [pLp, if_pos hc, pBd_n hs] at h; exact h.symm
theorem pLp_2 {c : Nat → Int} {sub : Nat → PRs} {lev n q q2 : Nat} {ts t2 : List Tok} {P : PRs} (h : pLp c sub lev n q ts = P) (hn : 0 < n) (hc : lvC (c q) = (lev : Int)) (hs : sub (q + 1) = (q2, some t2)) (h2 : lev = 2) : P = (q2, some (ts ++ t2 ++ [(c q, 0)])) := by
  cases n with
  | zero => omega
  | succ n => rw [pLp, if_pos hc, pBd_s hs, if_pos h2] at h; exact h.symm
theorem pLp_y {c : Nat → Int} {sub : Nat → PRs} {lev n q q2 : Nat} {ts t2 : List Tok} {P : PRs} (h : pLp c sub lev n q ts = P) (hn : 0 < n) (hc : lvC (c q) = (lev : Int)) (hs : sub (q + 1) = (q2, some t2)) (h2 : lev ≠ 2) : pLp c sub lev (n - 1) q2 (ts ++ t2 ++ [(c q, 0)]) = P := by
  cases n with
  | zero => omega
  | succ n => rw [pLp, if_pos hc, pBd_s hs, if_neg h2] at h; exact h
theorem pDg_s {c : Nat → Int} {n q : Nat} {v : Int} {P : Nat × Int} (h : pDg c n q v = P) (hn : 0 < n) (hd : 48 ≤ c q ∧ c q ≤ 57) : pDg c (n - 1) (q + 1) (v * 10 + c q - 48) = P := by
  cases n with
  | zero => omega
  | succ n => rw [pDg, if_pos hd] at h; exact h
theorem pDg_x {c : Nat → Int} {n q : Nat} {v : Int} {P : Nat × Int} (h : pDg c n q v = P) (hd : n = 0 ∨ ¬ (48 ≤ c q ∧ c q ≤ 57)) : P = (q, v) := by
  cases n with
  | zero => exact h.symm
  | succ n => rw [pDg, if_neg (hd.resolve_left (Nat.succ_ne_zero n))] at h; exact h.symm
/-- the law's steps are t -/
def LC (fs fw : Nat → Int32) (lz : Int32) (t : List Tok) : Prop := lz.toInt = ((t.length : Nat) : Int) ∧ t.length ≤ 128 ∧ ∀ j, j < t.length → (fs j).toInt = (t.getD j (0, 0)).1 ∧ (fw j).toInt = (t.getD j (0, 0)).2
theorem LC_push {fs fw : Nat → Int32} {lz : Int32} {t : List Tok} (h : LC fs fw lz t) (hlt : t.length < 128) {lz2 x y : Int32} {a b : Int} (hz : lz2.toInt = ((t.length + 1 : Nat) : Int)) (hx : x.toInt = a) (hy : y.toInt = b) : LC (upd fs t.length x) (upd fw t.length y) lz2 (t ++ [(a, b)]) := by
  refine ⟨by rw [List.length_append, List.length_singleton]; exact hz, by rw [List.length_append, List.length_singleton]; omega, fun j hj => ?_⟩
  rw [List.length_append, List.length_singleton] at hj
  unfold upd
  by_cases e : j = t.length
  · subst e; rw [if_pos rfl, if_pos rfl, gD_r (Nat.le_refl _), Nat.sub_self]; exact ⟨hx, hy⟩
  · rw [if_neg e, if_neg e, gD_l (by omega)]; exact h.2.2 j (by omega)
theorem LC_any (fs fw : Nat → Int32) {lz : Int32} {n : Nat} (hz : lz.toInt = ((n : Nat) : Int)) (hn : n ≤ 128) : ∃ t, LC fs fw lz t := by
  refine ⟨(List.range n).map fun j => ((fs j).toInt, (fw j).toInt), by rw [List.length_map, List.length_range]; exact hz, by rw [List.length_map, List.length_range]; exact hn, fun j hj => ?_⟩
  rw [List.length_map, List.length_range] at hj
  rw [List.getD_eq_getElem?_getD, List.getElem?_map, List.getElem?_range hj]
  exact ⟨rfl, rfl⟩
theorem LC_lead {fs fw : Nat → Int32} {lz : Int32} {a b : List Tok} {v : Int} (h : LC fs fw lz (a ++ (63, v) :: b)) {x : Int32} {w : Int} (hx : x.toInt = w) : LC fs (upd fw a.length x) lz (a ++ (63, w) :: b) := by
  refine ⟨by rw [h.1, List.length_append, List.length_append]; rfl, by have := h.2.1; rw [List.length_append] at this ⊢; exact this, fun j hj => ?_⟩
  have hj' : j < (a ++ (63, v) :: b).length := by rw [List.length_append] at hj ⊢; exact hj
  have h3 := h.2.2 j hj'
  unfold upd
  rcases Nat.lt_trichotomy j a.length with g | g | g
  · rw [if_neg (by omega), gD_l g]; rw [gD_l g] at h3; exact h3
  · subst g
    rw [if_pos rfl, gD_r (Nat.le_refl _), Nat.sub_self]
    rw [gD_r (Nat.le_refl _), Nat.sub_self] at h3
    exact ⟨h3.1, hx⟩
  · rw [if_neg (by omega), gD_r (by omega)]
    rw [gD_r (by omega)] at h3
    obtain ⟨d, hd⟩ : ∃ d, j - a.length = d + 1 := ⟨j - a.length - 1, by omega⟩
    rw [hd] at h3 ⊢; exact h3
theorem LC_app {t0 t1 t2 : List Tok} : t0 ++ t1 ++ t2 = t0 ++ (t1 ++ t2) := List.append_assoc _ _ _
set_option maxHeartbeats 4000000 in
set_option maxRecDepth 100000 in
theorem c_X5_addT (l : Launch) (D : va_G) (Y : Nat → ClassId) (lw : Nat) (ws_ : Nat) (ww : Nat) (wt : Nat) (wn : Nat) (wg : Nat) (wi : Nat) (lz : Int32) (fs : Nat → Int32) (fw : Nat → Int32) (t0 : List Tok) (x : Int32) (y : Int32) (hLC : LC fs fw lz t0) : Mg l yX5_add wsX5_add ({ frames := 0, cells := 0, slots := 0, locals := 0 }) D Y [(lw, .inr (4, [.ref ws_, .ref ww, .ref wt, .ref wn, .ref wg, .ref wi, .int lz])), (ws_, .inl (Y 0, 128, .inl fs)), (ww, .inl (Y 0, 128, .inl fw))] [.ref lw, .int x, .int y] 0 0 (fun vv__ ww__ => (∃ (lz2 : Int32), ∃ (fs2 : Nat → Int32), ∃ (fw2 : Nat → Int32), ∃ (t1 : List Tok), vv__ = none ∧ ww__ = [(lw, .inr (4, [.ref ws_, .ref ww, .ref wt, .ref wn, .ref wg, .ref wi, .int lz2])), (ws_, .inl (Y 0, 128, .inl fs2)), (ww, .inl (Y 0, 128, .inl fw2))] ∧ (LC fs2 fw2 lz2 t1) ∧ (t0.length < 128 → t1 = t0 ++ [(x.toInt, y.toInt)]))) := by
  refine Mg_of (cc := cX5_add) (maxL := 3) (ret := none) (ls0 := [(0, .ref lw), (1, .int x), (2, .int y)]) RX5 (by decide) rfl rfl rfl (Nat.le_of_ble_eq_true rfl) (fun p__ e__ s__ m__ b__ t__ c__ X hr hn => ?_)
  have hl8 := hLC.2.1
  refine V_aload_n X 0 rfl dX5_add_0 ?_
  refine V_get (C := RX5) (T := TX5) (N := 7) (ci := 4) (v := .int lz) X in_X5_add_X5 0 rfl rfl 6 (by decide) (List.mem_of_getElem? (i := 1) rfl) rfl rfl dX5_add_1 ?_
  refine V_aload_n X 0 rfl dX5_add_4 ?_
  refine V_get (C := RX5) (T := TX5) (N := 7) (ci := 4) (v := .ref ws_) X in_X5_add_X5 0 rfl rfl 0 (by decide) (List.mem_of_getElem? (i := 2) rfl) rfl rfl dX5_add_5 ?_
  refine V_alen (v := (128 : Int32)) X 1 0 rfl rfl rfl dX5_add_8 ?_
  refine V_icmp_ge X hLC.1 (show (128 : Int32).toInt = 128 from by decide) 24 dX5_add_9 (by decide) (fun c_9 => ?_) (fun c_9 => ?_)
  · exact V_vret X hr dX5_add_24 (⟨lz, fs, fw, t0, rfl, rfl, hLC, (fun h => absurd h (by omega))⟩)
  · refine V_aload_n X 0 rfl dX5_add_12 ?_
    refine V_get (C := RX5) (T := TX5) (N := 7) (ci := 4) (v := .int lz) X in_X5_add_X5 0 rfl rfl 6 (by decide) (List.mem_of_getElem? (i := 1) rfl) rfl rfl dX5_add_13 ?_
    refine V_aload_n X 0 rfl dX5_add_16 ?_
    refine V_get (C := RX5) (T := TX5) (N := 7) (ci := 4) (v := .ref ww) X in_X5_add_X5 0 rfl rfl 1 (by decide) (List.mem_of_getElem? (i := 3) rfl) rfl rfl dX5_add_17 ?_
    refine V_alen (v := (128 : Int32)) X 2 0 rfl rfl rfl dX5_add_20 ?_
    refine V_icmp_lt X hLC.1 (show (128 : Int32).toInt = 128 from by decide) 25 dX5_add_21 (by decide) (fun c_21 => ?_) (fun c_21 => ?_)
    · refine V_aload_n X 0 rfl dX5_add_25 ?_
      refine V_get (C := RX5) (T := TX5) (N := 7) (ci := 4) (v := .ref ws_) X in_X5_add_X5 0 rfl rfl 0 (by decide) (List.mem_of_getElem? (i := 2) rfl) rfl rfl dX5_add_26 ?_
      refine V_aload_n X 0 rfl dX5_add_29 ?_
      refine V_get (C := RX5) (T := TX5) (N := 7) (ci := 4) (v := .int lz) X in_X5_add_X5 0 rfl rfl 6 (by decide) (List.mem_of_getElem? (i := 1) rfl) rfl rfl dX5_add_30 ?_
      refine V_iload_n X 1 rfl dX5_add_33 ?_
      refine V_iast (ws' := [(lw, .inr (4, [.ref ws_, .ref ww, .ref wt, .ref wn, .ref wg, .ref wi, .int lz])), (ws_, .inl (Y 0, 128, .inl (upd fs t0.length x))), (ww, .inl (Y 0, 128, .inl fw))]) X 1 t0.length rfl hLC.1 (by omega) rfl dX5_add_34 ?_
      refine V_aload_n X 0 rfl dX5_add_35 ?_
      refine V_get (C := RX5) (T := TX5) (N := 7) (ci := 4) (v := .ref ww) X in_X5_add_X5 0 rfl rfl 1 (by decide) (List.mem_of_getElem? (i := 3) rfl) rfl rfl dX5_add_36 ?_
      refine V_aload_n X 0 rfl dX5_add_39 ?_
      refine V_get (C := RX5) (T := TX5) (N := 7) (ci := 4) (v := .int lz) X in_X5_add_X5 0 rfl rfl 6 (by decide) (List.mem_of_getElem? (i := 1) rfl) rfl rfl dX5_add_40 ?_
      refine V_iload_n X 2 rfl dX5_add_43 ?_
      refine V_iast (ws' := [(lw, .inr (4, [.ref ws_, .ref ww, .ref wt, .ref wn, .ref wg, .ref wi, .int lz])), (ws_, .inl (Y 0, 128, .inl (upd fs t0.length x))), (ww, .inl (Y 0, 128, .inl (upd fw t0.length y)))]) X 2 t0.length rfl hLC.1 (by omega) rfl dX5_add_44 ?_
      refine V_aload_n X 0 rfl dX5_add_45 ?_
      refine V_dup X rfl dX5_add_46 ?_
      refine V_get (C := RX5) (T := TX5) (N := 7) (ci := 4) (v := .int lz) X in_X5_add_X5 0 rfl rfl 6 (by decide) (List.mem_of_getElem? (i := 1) rfl) rfl rfl dX5_add_47 ?_
      refine V_iconst (v := (1 : Int32)) X (by decide) dX5_add_50 ?_
      refine V_iaddZ X hLC.1 (show (1 : Int32).toInt = 1 from by decide) (by omega) (by omega) dX5_add_51 (fun x_1 ex_1 tx_1 => ?_)
      have tx_1 : x_1.toInt = (((t0.length + 1) : Nat) : Int) := by omega
      refine V_put (C := RX5) (T := TX5) (N := 7) (ci := 4) (v := .int x_1) (ty := tyX5 6) (ws' := [(lw, .inr (4, [.ref ws_, .ref ww, .ref wt, .ref wn, .ref wg, .ref wi, .int x_1])), (ws_, .inl (Y 0, 128, .inl (upd fs t0.length x))), (ww, .inl (Y 0, 128, .inl (upd fw t0.length y)))]) X in_X5_add_X5 0 rfl rfl 6 (by decide) (List.mem_of_getElem? (i := 1) rfl) rfl tyX5 tyX5_ok nmX5 rfl (tyX5_ok 6 (by decide)) rfl rfl (Nat.le_of_ble_eq_true rfl) rfl dX5_add_52 ?_
      exact V_vret X hr dX5_add_55 (⟨x_1, (upd fs t0.length x), (upd fw t0.length y), (t0 ++ [(x.toInt, y.toInt)]), rfl, rfl, (LC_push hLC (by omega) (by omega) rfl rfl), (fun _ => rfl)⟩)
    · exact V_vret X hr dX5_add_24 (⟨lz, fs, fw, t0, rfl, rfl, hLC, (fun h => absurd h (by omega))⟩)

theorem in_X9_peek_X9 : ∀ w ∈ wsX90, w ∈ wsX9_peek := fun w h => List.mem_cons_of_mem _ (List.mem_append_right _ h)
set_option maxHeartbeats 4000000 in
set_option maxRecDepth 100000 in
theorem c_X9_peek (l : Launch) (D : va_G) (Y : Nat → ClassId) (tp : Nat) (tb : Nat) (lw : Nat) (tl : Int32) (pl : Int32) (fa : Int32) (pos : Nat) (L : Nat) (c : Nat → Int) (fb : Nat → Int32) (ttl : tl.toInt = ((L : Nat) : Int)) (hL : L ≤ 120) (tpl : pl.toInt = ((pos : Nat) : Int)) (hpL : pos ≤ L) (hCH : CHR fb L c) : Mg l yX9_peek wsX9_peek ({ frames := 1, cells := 0, slots := 0, locals := 21 }) D Y [(tp, .inr (8, [.ref tb, .int tl, .ref lw, .int pl, .int fa])), (tb, .inl (Y 0, 120, .inl fb))] [.ref tp] 0 0 (fun vv__ ww__ => (∃ (r : Int32), vv__ = some (.int r) ∧ ww__ = [(tp, .inr (8, [.ref tb, .int tl, .ref lw, .int pl, .int fa])), (tb, .inl (Y 0, 120, .inl fb))] ∧ (PK r (eff c fa pos)) ∧ (r = pkv fb L fa pos))) := by
  refine Mg_of (cc := cX9_peek) (maxL := 1) (ret := (some .int)) (ls0 := [(0, .ref tp)]) RX9 (by decide) rfl rfl rfl (Nat.le_of_ble_eq_true rfl) (fun p__ e__ s__ m__ b__ t__ c__ X hr hn => ?_)
  refine V_aload_n X 0 rfl dX9_peek_0 ?_
  refine V_get (C := RX9) (T := TX9) (N := 5) (ci := 8) (v := .int fa) X in_X9_peek_X9 0 rfl rfl 4 (by decide) (List.mem_of_getElem? (i := 1) rfl) rfl rfl dX9_peek_1 ?_
  refine V_if_ne X rfl 18 dX9_peek_4 (by decide) (fun c_4 => ?_) (fun c_4 => ?_)
  · refine V_iconst (v := (-1 : Int32)) X (by decide) dX9_peek_18 ?_
    refine V_goto X 33 (by decide) dX9_peek_19 ?_
    exact V_iret X hr dX9_peek_33 (⟨(-1 : Int32), rfl, rfl, (Or.inl (by rw [eff_f c_4]; decide)), (by unfold pkv; rw [if_pos (Or.inl c_4)])⟩)
  · refine V_aload_n X 0 rfl dX9_peek_7 ?_
    refine V_get (C := RX9) (T := TX9) (N := 5) (ci := 8) (v := .int pl) X in_X9_peek_X9 0 rfl rfl 3 (by decide) (List.mem_of_getElem? (i := 2) rfl) rfl rfl dX9_peek_8 ?_
    refine V_aload_n X 0 rfl dX9_peek_11 ?_
    refine V_get (C := RX9) (T := TX9) (N := 5) (ci := 8) (v := .int tl) X in_X9_peek_X9 0 rfl rfl 1 (by decide) (List.mem_of_getElem? (i := 3) rfl) rfl rfl dX9_peek_12 ?_
    refine V_icmp_lt X tpl ttl 22 dX9_peek_15 (by decide) (fun c_15 => ?_) (fun c_15 => ?_)
    · refine V_aload_n X 0 rfl dX9_peek_22 ?_
      refine V_get (C := RX9) (T := TX9) (N := 5) (ci := 8) (v := .ref tb) X in_X9_peek_X9 0 rfl rfl 0 (by decide) (List.mem_of_getElem? (i := 4) rfl) rfl rfl dX9_peek_23 ?_
      refine V_aload_n X 0 rfl dX9_peek_26 ?_
      refine V_get (C := RX9) (T := TX9) (N := 5) (ci := 8) (v := .int pl) X in_X9_peek_X9 0 rfl rfl 3 (by decide) (List.mem_of_getElem? (i := 2) rfl) rfl rfl dX9_peek_27 ?_
      refine V_callS (wr := [(tp, .inr (8, [.ref tb, .int tl, .ref lw, .int pl, .int fa]))]) (st := []) X (c_X1_at l D Y tb pl pos 120 fb tpl (by omega) (by omega)) 2 gX9_peek_X1_at rfl (by decide +kernel) ⟨rfl, rfl⟩ ⟨Nat.le_of_ble_eq_true rfl, Nat.le_of_ble_eq_true rfl⟩ [1] [0] rfl rfl rfl rfl (by decide) rfl rfl (Nat.le_of_ble_eq_true rfl) ⟨Nat.le_of_ble_eq_true rfl, Nat.le_of_ble_eq_true rfl⟩ dX9_peek_30 (fun v_30 w_30 h_30 => ?_)
      obtain ⟨rfl, rfl⟩ := h_30
      refine V_to (pc' := 33) (ls' := [(0, .ref tp)]) (st' := [.int (fb pos)]) (ws' := [(tp, .inr (8, [.ref tb, .int tl, .ref lw, .int pl, .int fa])), (tb, .inl (Y 0, 120, .inl fb))]) ?_ rfl rfl rfl rfl
      exact V_iret X hr dX9_peek_33 (⟨(fb pos), rfl, rfl, (by rw [eff_0 (by omega)]; exact (hCH pos).1 (by omega)), (by unfold pkv; rw [if_neg (by omega)])⟩)
    · refine V_iconst (v := (-1 : Int32)) X (by decide) dX9_peek_18 ?_
      refine V_goto X 33 (by decide) dX9_peek_19 ?_
      exact V_iret X hr dX9_peek_33 (⟨(-1 : Int32), rfl, rfl, (Or.inl (by rw [eff_0 (by omega), (hCH pos).2 (by omega)]; decide)), (by unfold pkv; rw [if_pos (Or.inr (by omega))])⟩)

set_option maxHeartbeats 4000000 in
set_option maxRecDepth 100000 in
theorem c_X9_nameOf (l : Launch) (D : va_G) (Y : Nat → ClassId) (x : Int32) : Mg l yX9_nameOf wsX9_nameOf ({ frames := 0, cells := 0, slots := 0, locals := 0 }) D Y [] [.int x] 0 0 (fun vv__ ww__ => (∃ (r : Int32), vv__ = some (.int r) ∧ ww__ = [] ∧ (r.toInt = nmC x.toInt))) := by
  refine Mg_of (cc := cX9_nameOf) (maxL := 1) (ret := (some .int)) (ls0 := [(0, .int x)]) RX9 (by decide) rfl rfl rfl (Nat.le_of_ble_eq_true rfl) (fun p__ e__ s__ m__ b__ t__ c__ X hr hn => ?_)
  refine V_iload_n X 0 rfl dX9_nameOf_0 ?_
  have t_1 : x.toInt = x.toInt := rfl
  rcases (by omega : x.toInt = 97 ∨ x.toInt = 107 ∨ x.toInt = 114 ∨ x.toInt = 115 ∨ x.toInt = 116 ∨ x.toInt = 119 ∨ (x.toInt ≠ 97 ∧ x.toInt ≠ 107 ∧ x.toInt ≠ 114 ∧ x.toInt ≠ 115 ∧ x.toInt ≠ 116 ∧ x.toInt ≠ 119)) with c_1 | c_1 | c_1 | c_1 | c_1 | c_1 | c_1
  · refine V_lookup X 60 dX9_nameOf_1 (by decide) (by rw [t_1, c_1] <;> decide) (by decide) ?_
    refine V_iconst (v := (0 : Int32)) X (by decide) dX9_nameOf_60 ?_
    exact V_iret X hr dX9_nameOf_61 (⟨(0 : Int32), rfl, rfl, (by rw [c_1]; decide)⟩)
  · refine V_lookup X 70 dX9_nameOf_1 (by decide) (by rw [t_1, c_1] <;> decide) (by decide) ?_
    refine V_iconst (v := (5 : Int32)) X (by decide) dX9_nameOf_70 ?_
    exact V_iret X hr dX9_nameOf_71 (⟨(5 : Int32), rfl, rfl, (by rw [c_1]; decide)⟩)
  · refine V_lookup X 66 dX9_nameOf_1 (by decide) (by rw [t_1, c_1] <;> decide) (by decide) ?_
    refine V_iconst (v := (3 : Int32)) X (by decide) dX9_nameOf_66 ?_
    exact V_iret X hr dX9_nameOf_67 (⟨(3 : Int32), rfl, rfl, (by rw [c_1]; decide)⟩)
  · refine V_lookup X 68 dX9_nameOf_1 (by decide) (by rw [t_1, c_1] <;> decide) (by decide) ?_
    refine V_iconst (v := (4 : Int32)) X (by decide) dX9_nameOf_68 ?_
    exact V_iret X hr dX9_nameOf_69 (⟨(4 : Int32), rfl, rfl, (by rw [c_1]; decide)⟩)
  · refine V_lookup X 62 dX9_nameOf_1 (by decide) (by rw [t_1, c_1] <;> decide) (by decide) ?_
    refine V_iconst (v := (1 : Int32)) X (by decide) dX9_nameOf_62 ?_
    exact V_iret X hr dX9_nameOf_63 (⟨(1 : Int32), rfl, rfl, (by rw [c_1]; decide)⟩)
  · refine V_lookup X 64 dX9_nameOf_1 (by decide) (by rw [t_1, c_1] <;> decide) (by decide) ?_
    refine V_iconst (v := (2 : Int32)) X (by decide) dX9_nameOf_64 ?_
    exact V_iret X hr dX9_nameOf_65 (⟨(2 : Int32), rfl, rfl, (by rw [c_1]; decide)⟩)
  · refine V_lookup X 72 dX9_nameOf_1 (by decide) (lk_none _ _ _ (by intro q hq; simp only [List.mem_cons, List.not_mem_nil, or_false] at hq; rw [t_1]; rcases hq with rfl | rfl | rfl | rfl | rfl | rfl <;> (try simp only []) <;> omega)) (by decide) ?_
    refine V_iconst (v := (-1 : Int32)) X (by decide) dX9_nameOf_72 ?_
    exact V_iret X hr dX9_nameOf_73 (⟨(-1 : Int32), rfl, rfl, (by unfold nmC; rw [if_neg (by omega), if_neg (by omega), if_neg (by omega), if_neg (by omega), if_neg (by omega), if_neg (by omega)]; decide)⟩)

set_option maxHeartbeats 4000000 in
set_option maxRecDepth 100000 in
theorem c_X9_levelOf (l : Launch) (D : va_G) (Y : Nat → ClassId) (x : Int32) : Mg l yX9_levelOf wsX9_levelOf ({ frames := 0, cells := 0, slots := 0, locals := 0 }) D Y [] [.int x] 0 0 (fun vv__ ww__ => (∃ (r : Int32), vv__ = some (.int r) ∧ ww__ = [] ∧ (r.toInt = lvC x.toInt))) := by
  refine Mg_of (cc := cX9_levelOf) (maxL := 1) (ret := (some .int)) (ls0 := [(0, .int x)]) RX9 (by decide) rfl rfl rfl (Nat.le_of_ble_eq_true rfl) (fun p__ e__ s__ m__ b__ t__ c__ X hr hn => ?_)
  refine V_iload_n X 0 rfl dX9_levelOf_0 ?_
  have t_1 : x.toInt = x.toInt := rfl
  rcases (by omega : x.toInt = 37 ∨ x.toInt = 38 ∨ x.toInt = 42 ∨ x.toInt = 43 ∨ x.toInt = 45 ∨ x.toInt = 47 ∨ x.toInt = 60 ∨ x.toInt = 61 ∨ x.toInt = 62 ∨ x.toInt = 124 ∨ (x.toInt ≠ 37 ∧ x.toInt ≠ 38 ∧ x.toInt ≠ 42 ∧ x.toInt ≠ 43 ∧ x.toInt ≠ 45 ∧ x.toInt ≠ 47 ∧ x.toInt ≠ 60 ∧ x.toInt ≠ 61 ∧ x.toInt ≠ 62 ∧ x.toInt ≠ 124)) with c_1 | c_1 | c_1 | c_1 | c_1 | c_1 | c_1 | c_1 | c_1 | c_1 | c_1
  · refine V_lookup X 100 dX9_levelOf_1 (by decide) (by rw [t_1, c_1] <;> decide) (by decide) ?_
    refine V_iconst (v := (4 : Int32)) X (by decide) dX9_levelOf_100 ?_
    exact V_iret X hr dX9_levelOf_101 (⟨(4 : Int32), rfl, rfl, (by rw [c_1]; decide)⟩)
  · refine V_lookup X 94 dX9_levelOf_1 (by decide) (by rw [t_1, c_1] <;> decide) (by decide) ?_
    refine V_iconst (v := (1 : Int32)) X (by decide) dX9_levelOf_94 ?_
    exact V_iret X hr dX9_levelOf_95 (⟨(1 : Int32), rfl, rfl, (by rw [c_1]; decide)⟩)
  · refine V_lookup X 100 dX9_levelOf_1 (by decide) (by rw [t_1, c_1] <;> decide) (by decide) ?_
    refine V_iconst (v := (4 : Int32)) X (by decide) dX9_levelOf_100 ?_
    exact V_iret X hr dX9_levelOf_101 (⟨(4 : Int32), rfl, rfl, (by rw [c_1]; decide)⟩)
  · refine V_lookup X 98 dX9_levelOf_1 (by decide) (by rw [t_1, c_1] <;> decide) (by decide) ?_
    refine V_iconst (v := (3 : Int32)) X (by decide) dX9_levelOf_98 ?_
    exact V_iret X hr dX9_levelOf_99 (⟨(3 : Int32), rfl, rfl, (by rw [c_1]; decide)⟩)
  · refine V_lookup X 98 dX9_levelOf_1 (by decide) (by rw [t_1, c_1] <;> decide) (by decide) ?_
    refine V_iconst (v := (3 : Int32)) X (by decide) dX9_levelOf_98 ?_
    exact V_iret X hr dX9_levelOf_99 (⟨(3 : Int32), rfl, rfl, (by rw [c_1]; decide)⟩)
  · refine V_lookup X 100 dX9_levelOf_1 (by decide) (by rw [t_1, c_1] <;> decide) (by decide) ?_
    refine V_iconst (v := (4 : Int32)) X (by decide) dX9_levelOf_100 ?_
    exact V_iret X hr dX9_levelOf_101 (⟨(4 : Int32), rfl, rfl, (by rw [c_1]; decide)⟩)
  · refine V_lookup X 96 dX9_levelOf_1 (by decide) (by rw [t_1, c_1] <;> decide) (by decide) ?_
    refine V_iconst (v := (2 : Int32)) X (by decide) dX9_levelOf_96 ?_
    exact V_iret X hr dX9_levelOf_97 (⟨(2 : Int32), rfl, rfl, (by rw [c_1]; decide)⟩)
  · refine V_lookup X 96 dX9_levelOf_1 (by decide) (by rw [t_1, c_1] <;> decide) (by decide) ?_
    refine V_iconst (v := (2 : Int32)) X (by decide) dX9_levelOf_96 ?_
    exact V_iret X hr dX9_levelOf_97 (⟨(2 : Int32), rfl, rfl, (by rw [c_1]; decide)⟩)
  · refine V_lookup X 96 dX9_levelOf_1 (by decide) (by rw [t_1, c_1] <;> decide) (by decide) ?_
    refine V_iconst (v := (2 : Int32)) X (by decide) dX9_levelOf_96 ?_
    exact V_iret X hr dX9_levelOf_97 (⟨(2 : Int32), rfl, rfl, (by rw [c_1]; decide)⟩)
  · refine V_lookup X 92 dX9_levelOf_1 (by decide) (by rw [t_1, c_1] <;> decide) (by decide) ?_
    refine V_iconst (v := (0 : Int32)) X (by decide) dX9_levelOf_92 ?_
    exact V_iret X hr dX9_levelOf_93 (⟨(0 : Int32), rfl, rfl, (by rw [c_1]; decide)⟩)
  · refine V_lookup X 102 dX9_levelOf_1 (by decide) (lk_none _ _ _ (by intro q hq; simp only [List.mem_cons, List.not_mem_nil, or_false] at hq; rw [t_1]; rcases hq with rfl | rfl | rfl | rfl | rfl | rfl | rfl | rfl | rfl | rfl <;> (try simp only []) <;> omega)) (by decide) ?_
    refine V_bipush (v := (-2 : Int32)) X (by decide) dX9_levelOf_102 ?_
    exact V_iret X hr dX9_levelOf_104 (⟨(-2 : Int32), rfl, rfl, (by unfold lvC; rw [if_neg (by omega), if_neg (by omega), if_neg (by omega), if_neg (by omega), if_neg (by omega)]; decide)⟩)

theorem in_X9_readNumber_X9 : ∀ w ∈ wsX90, w ∈ wsX9_readNumber := fun w h => List.mem_cons_of_mem _ (List.mem_append_left _ (List.mem_append_right _ h))
set_option maxHeartbeats 4000000 in
set_option maxRecDepth 100000 in
theorem c_X9_readNumber (l : Launch) (D : va_G) (Y : Nat → ClassId) (tp : Nat) (tb : Nat) (lw : Nat) (tl : Int32) (pl : Int32) (fa : Int32) (pos : Nat) (L : Nat) (c : Nat → Int) (ws_ : Nat) (ww : Nat) (wt : Nat) (wn : Nat) (wg : Nat) (wi : Nat) (lz : Int32) (fs : Nat → Int32) (fw : Nat → Int32) (t0 : List Tok) (fb : Nat → Int32) (ttl : tl.toInt = ((L : Nat) : Int)) (hL : L ≤ 120) (tpl : pl.toInt = ((pos : Nat) : Int)) (hpL : pos ≤ L) (hCH : CHR fb L c) (hLC : LC fs fw lz t0) (hfa : fa.toInt = 0) (htp : t0.length ≤ pos) (hdg : 48 ≤ c pos ∧ c pos ≤ 57) : Mg l yX9_readNumber wsX9_readNumber ({ frames := 2, cells := 0, slots := 0, locals := 41 }) D Y [(tp, .inr (8, [.ref tb, .int tl, .ref lw, .int pl, .int fa])), (tb, .inl (Y 0, 120, .inl fb)), (lw, .inr (4, [.ref ws_, .ref ww, .ref wt, .ref wn, .ref wg, .ref wi, .int lz])), (ws_, .inl (Y 0, 128, .inl fs)), (ww, .inl (Y 0, 128, .inl fw))] [.ref tp] 0 0 (fun vv__ ww__ => (∃ (q : Nat), ∃ (pl2 : Int32), ∃ (lz2 : Int32), ∃ (fs2 : Nat → Int32), ∃ (fw2 : Nat → Int32), vv__ = none ∧ ww__ = [(tp, .inr (8, [.ref tb, .int tl, .ref lw, .int pl2, .int fa])), (tb, .inl (Y 0, 120, .inl fb)), (lw, .inr (4, [.ref ws_, .ref ww, .ref wt, .ref wn, .ref wg, .ref wi, .int lz2])), (ws_, .inl (Y 0, 128, .inl fs2)), (ww, .inl (Y 0, 128, .inl fw2))] ∧ (pl2.toInt = ((q : Nat) : Int)) ∧ (q = (pDg c 4 pos 0).1) ∧ (pos + 1 ≤ q ∧ q ≤ L) ∧ (LC fs2 fw2 lz2 (t0 ++ [(48, (pDg c 4 pos 0).2)])))) := by
  refine Mg_of (cc := cX9_readNumber) (maxL := 3) (ret := none) (ls0 := [(0, .ref tp)]) RX9 (by decide) rfl rfl rfl (Nat.le_of_ble_eq_true rfl) (fun p__ e__ s__ m__ b__ t__ c__ X hr hn => ?_)
  refine V_iconst (v := (0 : Int32)) X (by decide) dX9_readNumber_0 ?_
  refine V_istore_n (ls' := [(1, .int (0 : Int32)), (0, .ref tp)]) X (by decide) rfl dX9_readNumber_1 ?_
  refine V_iconst (v := (0 : Int32)) X (by decide) dX9_readNumber_2 ?_
  refine V_istore_n (ls' := [(2, .int (0 : Int32)), (1, .int (0 : Int32)), (0, .ref tp)]) X (by decide) rfl dX9_readNumber_3 ?_
  refine V_ls (ls' := [(0, .ref tp), (1, .int (0 : Int32)), (2, .int (0 : Int32))]) [2, 1, 0] rfl ?_
  refine V_to (V_ind6 (fun (i2 : Int32) (i : Nat) (u1 : Int32) (v : Int) (p3 : Int32) (q : Nat) => (i2.toInt = ((i : Nat) : Int)) ∧ (u1.toInt = v) ∧ (p3.toInt = ((q : Nat) : Int)) ∧ (i ≤ 4) ∧ (pDg c (4 - i) q v = (pDg c 4 pos 0)) ∧ (0 ≤ v ∧ v ≤ 9999 ∧ (i ≤ 3 → v ≤ 999) ∧ (i ≤ 2 → v ≤ 99) ∧ (i ≤ 1 → v ≤ 9) ∧ (i = 0 → v = 0)) ∧ (pos ≤ q ∧ q ≤ L ∧ (i = 0 → q = pos) ∧ (0 < i → pos + 1 ≤ q))) (fun (i2 : Int32) (i : Nat) (u1 : Int32) (v : Int) (p3 : Int32) (q : Nat) => 4 - i) (fun (i2 : Int32) (i : Nat) (u1 : Int32) (v : Int) (p3 : Int32) (q : Nat) => [(0, .ref tp), (1, .int u1), (2, .int i2)]) (fun (i2 : Int32) (i : Nat) (u1 : Int32) (v : Int) (p3 : Int32) (q : Nat) => [(tp, .inr (8, [.ref tb, .int tl, .ref lw, .int p3, .int fa])), (tb, .inl (Y 0, 120, .inl fb)), (lw, .inr (4, [.ref ws_, .ref ww, .ref wt, .ref wn, .ref wg, .ref wi, .int lz])), (ws_, .inl (Y 0, 128, .inl fs)), (ww, .inl (Y 0, 128, .inl fw))]) (fun i2 i u1 v p3 q hI_4 ih_4 => ?_) (0 : Int32) 0 (0 : Int32) 0 pl pos ?_) rfl rfl rfl rfl
  · obtain ⟨ti2, tu1, tp3, hi4, hP, hv, hqb⟩ := hI_4
    refine V_to (ls' := [(0, .ref tp), (1, .int u1), (2, .int i2)]) (ws' := [(tp, .inr (8, [.ref tb, .int tl, .ref lw, .int p3, .int fa])), (tb, .inl (Y 0, 120, .inl fb)), (lw, .inr (4, [.ref ws_, .ref ww, .ref wt, .ref wn, .ref wg, .ref wi, .int lz])), (ws_, .inl (Y 0, 128, .inl fs)), (ww, .inl (Y 0, 128, .inl fw))]) ?_ rfl rfl rfl rfl
    refine V_iload_n X 2 rfl dX9_readNumber_4 ?_
    refine V_iconst (v := (4 : Int32)) X (by decide) dX9_readNumber_5 ?_
    refine V_icmp_ge X ti2 (show (4 : Int32).toInt = 4 from by decide) 56 dX9_readNumber_6 (by decide) (fun c_6 => ?_) (fun c_6 => ?_)
    · have hnd : 4 - i = 0 ∨ ¬ (48 ≤ c q ∧ c q ≤ 57) := Or.inl (by omega)
      have hDx := pDg_x hP hnd
      refine V_aload_n X 0 rfl dX9_readNumber_56 ?_
      refine V_get (C := RX9) (T := TX9) (N := 5) (ci := 8) (v := .ref lw) X in_X9_readNumber_X9 0 rfl rfl 2 (by decide) (List.mem_of_getElem? (i := 2) rfl) rfl rfl dX9_readNumber_57 ?_
      refine V_bipush (v := (48 : Int32)) X (by decide) dX9_readNumber_60 ?_
      refine V_iload_n X 1 rfl dX9_readNumber_62 ?_
      refine V_callV (C := RX5) (wr := [(tp, .inr (8, [.ref tb, .int tl, .ref lw, .int p3, .int fa])), (tb, .inl (Y 0, 120, .inl fb))]) (st := []) X (c_X5_addT l D Y lw ws_ ww wt wn wg wi lz fs fw t0 (48 : Int32) u1 hLC) 2 gX9_readNumber_X5_add rfl (by decide +kernel) ⟨rfl, rfl⟩ ⟨Nat.le_of_ble_eq_true rfl, Nat.le_of_ble_eq_true rfl⟩ [2, 3, 4] [0, 1] rfl rfl rfl rfl (by decide) (ci := 4) rfl rfl 0 rfl rfl rfl (Nat.le_of_ble_eq_true rfl) ⟨Nat.le_of_ble_eq_true rfl, Nat.le_of_ble_eq_true rfl⟩ dX9_readNumber_63 (fun v_63 w_63 h_63 => ?_)
      obtain ⟨lz2_2, fs2_3, fw2_4, t1_5, rfl, rfl, hhLC2_6, hht1_7⟩ := h_63
      refine V_to (pc' := 66) (ls' := [(0, .ref tp), (1, .int u1), (2, .int i2)]) (st' := []) (ws' := [(tp, .inr (8, [.ref tb, .int tl, .ref lw, .int p3, .int fa])), (tb, .inl (Y 0, 120, .inl fb)), (lw, .inr (4, [.ref ws_, .ref ww, .ref wt, .ref wn, .ref wg, .ref wi, .int lz2_2])), (ws_, .inl (Y 0, 128, .inl fs2_3)), (ww, .inl (Y 0, 128, .inl fw2_4))]) ?_ rfl rfl rfl rfl
      have hc_48 : (48 : Int32).toInt = 48 := by decide
      exact V_vret X hr dX9_readNumber_66 (⟨q, p3, lz2_2, fs2_3, fw2_4, rfl, rfl, tp3, (by rw [hDx]), ⟨by by_cases h8 : i = 0; exact absurd (by rw [hqb.2.2.1 h8]; exact hdg : 48 ≤ c q ∧ c q ≤ 57) (hnd.resolve_left (by omega)); exact hqb.2.2.2 (by omega), hqb.2.1⟩, (by have h9 := hht1_7 (by omega); rw [show (48 : Int32).toInt = 48 from by decide, tu1] at h9; rw [hDx]; show LC _ _ _ (t0 ++ [(48, v)]); rw [← h9]; exact hhLC2_6)⟩)
    · refine V_aload_n X 0 rfl dX9_readNumber_9 ?_
      refine V_callV (C := RX9) (wr := [(lw, .inr (4, [.ref ws_, .ref ww, .ref wt, .ref wn, .ref wg, .ref wi, .int lz])), (ws_, .inl (Y 0, 128, .inl fs)), (ww, .inl (Y 0, 128, .inl fw))]) (st := []) X (c_X9_peek l D Y tp tb lw tl p3 fa q L c fb ttl hL tp3 (by omega) hCH) 0 gX9_readNumber_X9_peek rfl (by decide +kernel) ⟨rfl, rfl⟩ ⟨Nat.le_of_ble_eq_true rfl, Nat.le_of_ble_eq_true rfl⟩ [0, 1] [2, 3, 4] rfl rfl rfl rfl (by decide) (ci := 8) rfl rfl 0 rfl rfl rfl (Nat.le_of_ble_eq_true rfl) ⟨Nat.le_of_ble_eq_true rfl, Nat.le_of_ble_eq_true rfl⟩ dX9_readNumber_10 (fun v_10 w_10 h_10 => ?_)
      obtain ⟨r_9, rfl, rfl, hhpk_10, hhpv_11⟩ := h_10
      refine V_to (pc' := 13) (ls' := [(0, .ref tp), (1, .int u1), (2, .int i2)]) (st' := [.int r_9]) (ws' := [(lw, .inr (4, [.ref ws_, .ref ww, .ref wt, .ref wn, .ref wg, .ref wi, .int lz])), (ws_, .inl (Y 0, 128, .inl fs)), (ww, .inl (Y 0, 128, .inl fw)), (tp, .inr (8, [.ref tb, .int tl, .ref lw, .int p3, .int fa])), (tb, .inl (Y 0, 120, .inl fb))]) ?_ rfl rfl rfl rfl
      refine V_bipush (v := (48 : Int32)) X (by decide) dX9_readNumber_13 ?_
      refine V_icmp_lt X rfl (show (48 : Int32).toInt = 48 from by decide) 56 dX9_readNumber_15 (by decide) (fun c_15 => ?_) (fun c_15 => ?_)
      · have hnd : 4 - i = 0 ∨ ¬ (48 ≤ c q ∧ c q ≤ 57) := Or.inr (by have h1 := PK_0 hhpk_10 hfa; unfold PK at h1; omega)
        have hDx := pDg_x hP hnd
        refine V_aload_n X 0 rfl dX9_readNumber_56 ?_
        refine V_get (C := RX9) (T := TX9) (N := 5) (ci := 8) (v := .ref lw) X in_X9_readNumber_X9 3 rfl rfl 2 (by decide) (List.mem_of_getElem? (i := 2) rfl) rfl rfl dX9_readNumber_57 ?_
        refine V_bipush (v := (48 : Int32)) X (by decide) dX9_readNumber_60 ?_
        refine V_iload_n X 1 rfl dX9_readNumber_62 ?_
        refine V_callV (C := RX5) (wr := [(tp, .inr (8, [.ref tb, .int tl, .ref lw, .int p3, .int fa])), (tb, .inl (Y 0, 120, .inl fb))]) (st := []) X (c_X5_addT l D Y lw ws_ ww wt wn wg wi lz fs fw t0 (48 : Int32) u1 hLC) 2 gX9_readNumber_X5_add rfl (by decide +kernel) ⟨rfl, rfl⟩ ⟨Nat.le_of_ble_eq_true rfl, Nat.le_of_ble_eq_true rfl⟩ [0, 1, 2] [3, 4] rfl rfl rfl rfl (by decide) (ci := 4) rfl rfl 0 rfl rfl rfl (Nat.le_of_ble_eq_true rfl) ⟨Nat.le_of_ble_eq_true rfl, Nat.le_of_ble_eq_true rfl⟩ dX9_readNumber_63 (fun v_63 w_63 h_63 => ?_)
        obtain ⟨lz2_13, fs2_14, fw2_15, t1_16, rfl, rfl, hhLC2_17, hht1_18⟩ := h_63
        refine V_to (pc' := 66) (ls' := [(0, .ref tp), (1, .int u1), (2, .int i2)]) (st' := []) (ws' := [(tp, .inr (8, [.ref tb, .int tl, .ref lw, .int p3, .int fa])), (tb, .inl (Y 0, 120, .inl fb)), (lw, .inr (4, [.ref ws_, .ref ww, .ref wt, .ref wn, .ref wg, .ref wi, .int lz2_13])), (ws_, .inl (Y 0, 128, .inl fs2_14)), (ww, .inl (Y 0, 128, .inl fw2_15))]) ?_ rfl rfl rfl rfl
        have hc_48 : (48 : Int32).toInt = 48 := by decide
        exact V_vret X hr dX9_readNumber_66 (⟨q, p3, lz2_13, fs2_14, fw2_15, rfl, rfl, tp3, (by rw [hDx]), ⟨by by_cases h8 : i = 0; exact absurd (by rw [hqb.2.2.1 h8]; exact hdg : 48 ≤ c q ∧ c q ≤ 57) (hnd.resolve_left (by omega)); exact hqb.2.2.2 (by omega), hqb.2.1⟩, (by have h9 := hht1_18 (by omega); rw [show (48 : Int32).toInt = 48 from by decide, tu1] at h9; rw [hDx]; show LC _ _ _ (t0 ++ [(48, v)]); rw [← h9]; exact hhLC2_17)⟩)
      · refine V_aload_n X 0 rfl dX9_readNumber_18 ?_
        refine V_callV (C := RX9) (wr := [(lw, .inr (4, [.ref ws_, .ref ww, .ref wt, .ref wn, .ref wg, .ref wi, .int lz])), (ws_, .inl (Y 0, 128, .inl fs)), (ww, .inl (Y 0, 128, .inl fw))]) (st := []) X (c_X9_peek l D Y tp tb lw tl p3 fa q L c fb ttl hL tp3 (by omega) hCH) 0 gX9_readNumber_X9_peek rfl (by decide +kernel) ⟨rfl, rfl⟩ ⟨Nat.le_of_ble_eq_true rfl, Nat.le_of_ble_eq_true rfl⟩ [3, 4] [0, 1, 2] rfl rfl rfl rfl (by decide) (ci := 8) rfl rfl 0 rfl rfl rfl (Nat.le_of_ble_eq_true rfl) ⟨Nat.le_of_ble_eq_true rfl, Nat.le_of_ble_eq_true rfl⟩ dX9_readNumber_19 (fun v_19 w_19 h_19 => ?_)
        obtain ⟨r_20, rfl, rfl, hhpk_21, hhpv_22⟩ := h_19
        refine V_to (pc' := 22) (ls' := [(0, .ref tp), (1, .int u1), (2, .int i2)]) (st' := [.int r_20]) (ws' := [(lw, .inr (4, [.ref ws_, .ref ww, .ref wt, .ref wn, .ref wg, .ref wi, .int lz])), (ws_, .inl (Y 0, 128, .inl fs)), (ww, .inl (Y 0, 128, .inl fw)), (tp, .inr (8, [.ref tb, .int tl, .ref lw, .int p3, .int fa])), (tb, .inl (Y 0, 120, .inl fb))]) ?_ rfl rfl rfl rfl
        refine V_bipush (v := (57 : Int32)) X (by decide) dX9_readNumber_22 ?_
        refine V_icmp_gt X rfl (show (57 : Int32).toInt = 57 from by decide) 56 dX9_readNumber_24 (by decide) (fun c_24 => ?_) (fun c_24 => ?_)
        · have hnd : 4 - i = 0 ∨ ¬ (48 ≤ c q ∧ c q ≤ 57) := Or.inr (by have h1 := PK_0 hhpk_21 hfa; unfold PK at h1; omega)
          have hDx := pDg_x hP hnd
          refine V_aload_n X 0 rfl dX9_readNumber_56 ?_
          refine V_get (C := RX9) (T := TX9) (N := 5) (ci := 8) (v := .ref lw) X in_X9_readNumber_X9 3 rfl rfl 2 (by decide) (List.mem_of_getElem? (i := 2) rfl) rfl rfl dX9_readNumber_57 ?_
          refine V_bipush (v := (48 : Int32)) X (by decide) dX9_readNumber_60 ?_
          refine V_iload_n X 1 rfl dX9_readNumber_62 ?_
          refine V_callV (C := RX5) (wr := [(tp, .inr (8, [.ref tb, .int tl, .ref lw, .int p3, .int fa])), (tb, .inl (Y 0, 120, .inl fb))]) (st := []) X (c_X5_addT l D Y lw ws_ ww wt wn wg wi lz fs fw t0 (48 : Int32) u1 hLC) 2 gX9_readNumber_X5_add rfl (by decide +kernel) ⟨rfl, rfl⟩ ⟨Nat.le_of_ble_eq_true rfl, Nat.le_of_ble_eq_true rfl⟩ [0, 1, 2] [3, 4] rfl rfl rfl rfl (by decide) (ci := 4) rfl rfl 0 rfl rfl rfl (Nat.le_of_ble_eq_true rfl) ⟨Nat.le_of_ble_eq_true rfl, Nat.le_of_ble_eq_true rfl⟩ dX9_readNumber_63 (fun v_63 w_63 h_63 => ?_)
          obtain ⟨lz2_24, fs2_25, fw2_26, t1_27, rfl, rfl, hhLC2_28, hht1_29⟩ := h_63
          refine V_to (pc' := 66) (ls' := [(0, .ref tp), (1, .int u1), (2, .int i2)]) (st' := []) (ws' := [(tp, .inr (8, [.ref tb, .int tl, .ref lw, .int p3, .int fa])), (tb, .inl (Y 0, 120, .inl fb)), (lw, .inr (4, [.ref ws_, .ref ww, .ref wt, .ref wn, .ref wg, .ref wi, .int lz2_24])), (ws_, .inl (Y 0, 128, .inl fs2_25)), (ww, .inl (Y 0, 128, .inl fw2_26))]) ?_ rfl rfl rfl rfl
          have hc_48 : (48 : Int32).toInt = 48 := by decide
          exact V_vret X hr dX9_readNumber_66 (⟨q, p3, lz2_24, fs2_25, fw2_26, rfl, rfl, tp3, (by rw [hDx]), ⟨by by_cases h8 : i = 0; exact absurd (by rw [hqb.2.2.1 h8]; exact hdg : 48 ≤ c q ∧ c q ≤ 57) (hnd.resolve_left (by omega)); exact hqb.2.2.2 (by omega), hqb.2.1⟩, (by have h9 := hht1_29 (by omega); rw [show (48 : Int32).toInt = 48 from by decide, tu1] at h9; rw [hDx]; show LC _ _ _ (t0 ++ [(48, v)]); rw [← h9]; exact hhLC2_28)⟩)
        · have he12 := congrArg Int32.toInt (hhpv_11.trans hhpv_22.symm)
          have hdq : 48 ≤ c q ∧ c q ≤ 57 := by have h1 := PK_0 hhpk_10 hfa; unfold PK at h1; omega
          have hqL := CHR_lt hCH (show c q ≠ -1 by omega)
          refine V_iload_n X 1 rfl dX9_readNumber_27 ?_
          refine V_bipush (v := (10 : Int32)) X (by decide) dX9_readNumber_28 ?_
          refine V_imulZ X tu1 (show (10 : Int32).toInt = 10 from by decide) (by omega) (by omega) dX9_readNumber_30 (fun x_30 ex_30 tx_30 => ?_)
          refine V_aload_n X 0 rfl dX9_readNumber_31 ?_
          refine V_callV (C := RX9) (wr := [(lw, .inr (4, [.ref ws_, .ref ww, .ref wt, .ref wn, .ref wg, .ref wi, .int lz])), (ws_, .inl (Y 0, 128, .inl fs)), (ww, .inl (Y 0, 128, .inl fw))]) (st := [.int x_30]) X (c_X9_peek l D Y tp tb lw tl p3 fa q L c fb ttl hL tp3 (by omega) hCH) 0 gX9_readNumber_X9_peek rfl (by decide +kernel) ⟨rfl, rfl⟩ ⟨Nat.le_of_ble_eq_true rfl, Nat.le_of_ble_eq_true rfl⟩ [3, 4] [0, 1, 2] rfl rfl rfl rfl (by decide) (ci := 8) rfl rfl 0 rfl rfl rfl (Nat.le_of_ble_eq_true rfl) ⟨Nat.le_of_ble_eq_true rfl, Nat.le_of_ble_eq_true rfl⟩ dX9_readNumber_32 (fun v_32 w_32 h_32 => ?_)
          obtain ⟨r_32, rfl, rfl, hhpk_33, hhpv_34⟩ := h_32
          refine V_to (pc' := 35) (ls' := [(0, .ref tp), (1, .int u1), (2, .int i2)]) (st' := [.int r_32, .int x_30]) (ws' := [(lw, .inr (4, [.ref ws_, .ref ww, .ref wt, .ref wn, .ref wg, .ref wi, .int lz])), (ws_, .inl (Y 0, 128, .inl fs)), (ww, .inl (Y 0, 128, .inl fw)), (tp, .inr (8, [.ref tb, .int tl, .ref lw, .int p3, .int fa])), (tb, .inl (Y 0, 120, .inl fb))]) ?_ rfl rfl rfl rfl
          have hk3 : r_32.toInt = c q := by have h9 := PK_0 hhpk_33 hfa; unfold PK at h9; omega
          refine V_iaddZ X rfl rfl (by omega) (by omega) dX9_readNumber_35 (fun x_35 ex_35 tx_35 => ?_)
          refine V_bipush (v := (48 : Int32)) X (by decide) dX9_readNumber_36 ?_
          refine V_isubZ X rfl (show (48 : Int32).toInt = 48 from by decide) (by omega) (by omega) dX9_readNumber_38 (fun x_36 ex_36 tx_36 => ?_)
          refine V_istore_n (ls' := [(1, .int x_36), (0, .ref tp), (2, .int i2)]) X (by decide) rfl dX9_readNumber_39 ?_
          refine V_aload_n X 1 rfl dX9_readNumber_40 ?_
          refine V_dup X rfl dX9_readNumber_41 ?_
          refine V_get (C := RX9) (T := TX9) (N := 5) (ci := 8) (v := .int p3) X in_X9_readNumber_X9 3 rfl rfl 3 (by decide) (List.mem_of_getElem? (i := 1) rfl) rfl rfl dX9_readNumber_42 ?_
          refine V_iconst (v := (1 : Int32)) X (by decide) dX9_readNumber_45 ?_
          refine V_iaddZ X tp3 (show (1 : Int32).toInt = 1 from by decide) (by omega) (by omega) dX9_readNumber_46 (fun x_37 ex_37 tx_37 => ?_)
          have tx_37 : x_37.toInt = (((q + 1) : Nat) : Int) := by omega
          refine V_put (C := RX9) (T := TX9) (N := 5) (ci := 8) (v := .int x_37) (ty := tyX9 3) (ws' := [(lw, .inr (4, [.ref ws_, .ref ww, .ref wt, .ref wn, .ref wg, .ref wi, .int lz])), (ws_, .inl (Y 0, 128, .inl fs)), (ww, .inl (Y 0, 128, .inl fw)), (tp, .inr (8, [.ref tb, .int tl, .ref lw, .int x_37, .int fa])), (tb, .inl (Y 0, 120, .inl fb))]) X in_X9_readNumber_X9 3 rfl rfl 3 (by decide) (List.mem_of_getElem? (i := 1) rfl) rfl tyX9 tyX9_ok nmX9 rfl (tyX9_ok 3 (by decide)) rfl rfl (Nat.le_of_ble_eq_true rfl) rfl dX9_readNumber_47 ?_
          refine V_iincZ X (fun vv_ => [(2, .int vv_), (1, .int x_36), (0, .ref tp)]) ti2 (by omega) (by omega) (by decide) 2 rfl (by decide) (fun _ => rfl) dX9_readNumber_50 (fun x_38 ex_38 tx_38 => ?_)
          have tx_38 : x_38.toInt = (((i + 1) : Nat) : Int) := by omega
          refine V_goto X 4 (by decide) dX9_readNumber_53 ?_
          refine V_ls (ls' := [(0, .ref tp), (1, .int x_36), (2, .int x_38)]) [2, 1, 0] rfl ?_
          refine V_ws (ws' := [(tp, .inr (8, [.ref tb, .int tl, .ref lw, .int x_37, .int fa])), (tb, .inl (Y 0, 120, .inl fb)), (lw, .inr (4, [.ref ws_, .ref ww, .ref wt, .ref wn, .ref wg, .ref wi, .int lz])), (ws_, .inl (Y 0, 128, .inl fs)), (ww, .inl (Y 0, 128, .inl fw))]) [3, 4, 0, 1, 2] rfl rfl rfl ?_
          exact V_to (ih_4 x_38 (i + 1) x_36 (v * 10 + c q - 48) x_37 (q + 1) ⟨(by omega), (by omega), (by omega), (by omega), (by rw [show 4 - (i + 1) = (4 - i) - 1 by omega]; exact pDg_s hP (by omega) hdq), (by omega), (by omega)⟩ (by omega)) rfl rfl rfl rfl
  · exact ⟨(by have h9 : (0 : Int32).toInt = 0 := (show (0 : Int32).toInt = 0 from by decide); omega), (by decide), tpl, (by omega), rfl, (by omega), (by omega)⟩



set_option maxHeartbeats 4000000 in
set_option maxRecDepth 100000 in
theorem c_X9_readTerms_0 (l : Launch) (D : va_G) (Y : Nat → ClassId) (tp : Nat) (tb : Nat) (lw : Nat) (tl : Int32) (pl : Int32) (fa : Int32) (pos : Nat) (L : Nat) (c : Nat → Int) (ws_ : Nat) (ww : Nat) (wt : Nat) (wn : Nat) (wg : Nat) (wi : Nat) (lz : Int32) (fs : Nat → Int32) (fw : Nat → Int32) (t0 : List Tok) (fb : Nat → Int32) (k : Nat) (lv_ : Int32) (lev : Nat) (op_ : Int32) (opn : Nat) (ttl : tl.toInt = ((L : Nat) : Int)) (hL : L ≤ 120) (tpl : pl.toInt = ((pos : Nat) : Int)) (hpL : pos ≤ L) (hCH : CHR fb L c) (hLC : LC fs fw lz t0) (hfa : fa.toInt = 0) (htp : t0.length ≤ pos) (top_ : op_.toInt = ((opn : Nat) : Int)) (hok : opn + k = 6) (tlv_ : lv_.toInt = ((lev : Nat) : Int)) (hlj : lev + 0 = 5) (ihO : ∀ (l : Launch) (D : va_G) (Y : Nat → ClassId) (tp : Nat) (tb : Nat) (lw : Nat) (tl : Int32) (pl : Int32) (fa : Int32) (pos : Nat) (L : Nat) (c : Nat → Int) (ws_ : Nat) (ww : Nat) (wt : Nat) (wn : Nat) (wg : Nat) (wi : Nat) (lz : Int32) (fs : Nat → Int32) (fw : Nat → Int32) (t0 : List Tok) (fb : Nat → Int32) (op_ : Int32) (opn : Nat) (ttl : tl.toInt = ((L : Nat) : Int)) (hL : L ≤ 120) (tpl : pl.toInt = ((pos : Nat) : Int)) (hpL : pos ≤ L) (hCH : CHR fb L c) (hLC : LC fs fw lz t0) (hfa : fa.toInt = 0) (htp : t0.length ≤ pos) (top_ : op_.toInt = ((opn : Nat) : Int)) (hok : opn + k = 6), Mg l yX9_readOperand wsX9_readOperand ({ frames := 7 * (k) + 8, cells := 0, slots := 0, locals := 250 * (k) + 400 }) D Y [(tp, .inr (8, [.ref tb, .int tl, .ref lw, .int pl, .int fa])), (tb, .inl (Y 0, 120, .inl fb)), (lw, .inr (4, [.ref ws_, .ref ww, .ref wt, .ref wn, .ref wg, .ref wi, .int lz])), (ws_, .inl (Y 0, 128, .inl fs)), (ww, .inl (Y 0, 128, .inl fw))] [.ref tp, .int op_] 0 0 (fun vv__ ww__ => (∃ (q : Nat), ∃ (ts : List Tok), ∃ (pl2 : Int32), ∃ (lz2 : Int32), ∃ (fs2 : Nat → Int32), ∃ (fw2 : Nat → Int32), vv__ = none ∧ ww__ = [(tp, .inr (8, [.ref tb, .int tl, .ref lw, .int pl2, .int fa])), (tb, .inl (Y 0, 120, .inl fb)), (lw, .inr (4, [.ref ws_, .ref ww, .ref wt, .ref wn, .ref wg, .ref wi, .int lz2])), (ws_, .inl (Y 0, 128, .inl fs2)), (ww, .inl (Y 0, 128, .inl fw2))] ∧ (pl2.toInt = ((q : Nat) : Int)) ∧ (pOp c k pos = (q, some ts)) ∧ (pos + ts.length ≤ q ∧ q ≤ L) ∧ (LC fs2 fw2 lz2 (t0 ++ ts))) ∨ (∃ (q : Nat), ∃ (t1 : List Tok), ∃ (pl2 : Int32), ∃ (fa2 : Int32), ∃ (lz2 : Int32), ∃ (fs2 : Nat → Int32), ∃ (fw2 : Nat → Int32), vv__ = none ∧ ww__ = [(tp, .inr (8, [.ref tb, .int tl, .ref lw, .int pl2, .int fa2])), (tb, .inl (Y 0, 120, .inl fb)), (lw, .inr (4, [.ref ws_, .ref ww, .ref wt, .ref wn, .ref wg, .ref wi, .int lz2])), (ws_, .inl (Y 0, 128, .inl fs2)), (ww, .inl (Y 0, 128, .inl fw2))] ∧ (pl2.toInt = ((q : Nat) : Int)) ∧ (pOp c k pos = (q, none)) ∧ (q ≤ L) ∧ (fa2.toInt ≠ 0 ∨ (48 ≤ c q ∧ c q ≤ 57)) ∧ (LC fs2 fw2 lz2 t1)))) : Mg l yX9_readTerms wsX9_readTerms ({ frames := 7 * (k) + 9 + (0), cells := 0, slots := 0, locals := 250 * (k) + 430 + 30 * (0) }) D Y [(tp, .inr (8, [.ref tb, .int tl, .ref lw, .int pl, .int fa])), (tb, .inl (Y 0, 120, .inl fb)), (lw, .inr (4, [.ref ws_, .ref ww, .ref wt, .ref wn, .ref wg, .ref wi, .int lz])), (ws_, .inl (Y 0, 128, .inl fs)), (ww, .inl (Y 0, 128, .inl fw))] [.ref tp, .int lv_, .int op_] 0 0 (fun vv__ ww__ => (∃ (q : Nat), ∃ (ts : List Tok), ∃ (pl2 : Int32), ∃ (lz2 : Int32), ∃ (fs2 : Nat → Int32), ∃ (fw2 : Nat → Int32), vv__ = none ∧ ww__ = [(tp, .inr (8, [.ref tb, .int tl, .ref lw, .int pl2, .int fa])), (tb, .inl (Y 0, 120, .inl fb)), (lw, .inr (4, [.ref ws_, .ref ww, .ref wt, .ref wn, .ref wg, .ref wi, .int lz2])), (ws_, .inl (Y 0, 128, .inl fs2)), (ww, .inl (Y 0, 128, .inl fw2))] ∧ (pl2.toInt = ((q : Nat) : Int)) ∧ (pTm c (pOp c k) 0 pos = (q, some ts)) ∧ (pos + ts.length ≤ q ∧ q ≤ L) ∧ (LC fs2 fw2 lz2 (t0 ++ ts))) ∨ (∃ (q : Nat), ∃ (t1 : List Tok), ∃ (pl2 : Int32), ∃ (fa2 : Int32), ∃ (lz2 : Int32), ∃ (fs2 : Nat → Int32), ∃ (fw2 : Nat → Int32), vv__ = none ∧ ww__ = [(tp, .inr (8, [.ref tb, .int tl, .ref lw, .int pl2, .int fa2])), (tb, .inl (Y 0, 120, .inl fb)), (lw, .inr (4, [.ref ws_, .ref ww, .ref wt, .ref wn, .ref wg, .ref wi, .int lz2])), (ws_, .inl (Y 0, 128, .inl fs2)), (ww, .inl (Y 0, 128, .inl fw2))] ∧ (pl2.toInt = ((q : Nat) : Int)) ∧ (pTm c (pOp c k) 0 pos = (q, none)) ∧ (q ≤ L) ∧ (fa2.toInt ≠ 0 ∨ (48 ≤ c q ∧ c q ≤ 57)) ∧ (LC fs2 fw2 lz2 t1))) := by
  refine Mg_of (cc := cX9_readTerms) (maxL := 5) (ret := none) (ls0 := [(0, .ref tp), (1, .int lv_), (2, .int op_)]) RX9 (by decide) rfl rfl rfl (Nat.le_of_ble_eq_true rfl) (fun p__ e__ s__ m__ b__ t__ c__ X hr hn => ?_)
  refine V_iload_n X 1 rfl dX9_readTerms_0 ?_
  refine V_iconst (v := (5 : Int32)) X (by decide) dX9_readTerms_1 ?_
  refine V_icmp_lt X tlv_ (show (5 : Int32).toInt = 5 from by decide) 11 dX9_readTerms_2 (by decide) (fun c_2 => False.elim (by omega)) (fun c_2 => ?_)
  refine V_aload_n X 0 rfl dX9_readTerms_5 ?_
  refine V_iload_n X 2 rfl dX9_readTerms_6 ?_
  refine V_callV (C := RX9) (wr := []) (st := []) X (ihO l D Y tp tb lw tl pl fa pos L c ws_ ww wt wn wg wi lz fs fw t0 fb op_ opn ttl hL tpl hpL hCH hLC hfa htp top_ hok) 1 gX9_readTerms_X9_readOperand rfl (by decide +kernel) ⟨rfl, rfl⟩ ⟨(by simp only [headSpec]; omega), (by simp only [headSpec]; omega)⟩ [0, 1, 2, 3, 4] [] rfl rfl rfl rfl (by decide) (ci := 8) rfl rfl 0 rfl rfl rfl (Nat.le_of_ble_eq_true rfl) ⟨Nat.le_of_ble_eq_true rfl, Nat.le_of_ble_eq_true rfl⟩ dX9_readTerms_7 (fun v_7 w_7 h_7 => ?_)
  rcases h_7 with ⟨q_w, ts_w, pl2_4, lz2_5, fs2_6, fw2_7, rfl, rfl, htpl2_8, hhR_9, hhqb_10, hhLC2_11⟩ | ⟨q_w, t1_w, pl2_14, fa2_15, lz2_16, fs2_17, fw2_18, rfl, rfl, htpl2_19, hhR_20, hhqL_21, hhD_22, hhLC2_23⟩
  · refine V_to (pc' := 10) (ls' := [(0, .ref tp), (1, .int lv_), (2, .int op_)]) (st' := []) (ws' := [(tp, .inr (8, [.ref tb, .int tl, .ref lw, .int pl2_4, .int fa])), (tb, .inl (Y 0, 120, .inl fb)), (lw, .inr (4, [.ref ws_, .ref ww, .ref wt, .ref wn, .ref wg, .ref wi, .int lz2_5])), (ws_, .inl (Y 0, 128, .inl fs2_6)), (ww, .inl (Y 0, 128, .inl fw2_7))]) ?_ rfl rfl rfl rfl
    exact V_vret X hr dX9_readTerms_10 (Or.inl ⟨q_w, ts_w, pl2_4, lz2_5, fs2_6, fw2_7, rfl, rfl, htpl2_8, hhR_9, hhqb_10, hhLC2_11⟩)
  · refine V_to (pc' := 10) (ls' := [(0, .ref tp), (1, .int lv_), (2, .int op_)]) (st' := []) (ws' := [(tp, .inr (8, [.ref tb, .int tl, .ref lw, .int pl2_14, .int fa2_15])), (tb, .inl (Y 0, 120, .inl fb)), (lw, .inr (4, [.ref ws_, .ref ww, .ref wt, .ref wn, .ref wg, .ref wi, .int lz2_16])), (ws_, .inl (Y 0, 128, .inl fs2_17)), (ww, .inl (Y 0, 128, .inl fw2_18))]) ?_ rfl rfl rfl rfl
    exact V_vret X hr dX9_readTerms_10 (Or.inr (⟨q_w, t1_w, pl2_14, fa2_15, lz2_16, fs2_17, fw2_18, rfl, rfl, htpl2_19, hhR_20, hhqL_21, hhD_22, hhLC2_23⟩))

theorem in_X9_readTerms_X9 : ∀ w ∈ wsX90, w ∈ wsX9_readTerms := fun w h => List.mem_cons_of_mem _ (List.mem_append_left _ (List.mem_append_right _ h))
set_option maxHeartbeats 4000000 in
set_option maxRecDepth 100000 in
theorem c_X9_readTerms_s (l : Launch) (D : va_G) (Y : Nat → ClassId) (tp : Nat) (tb : Nat) (lw : Nat) (tl : Int32) (pl : Int32) (fa : Int32) (pos : Nat) (L : Nat) (c : Nat → Int) (ws_ : Nat) (ww : Nat) (wt : Nat) (wn : Nat) (wg : Nat) (wi : Nat) (lz : Int32) (fs : Nat → Int32) (fw : Nat → Int32) (t0 : List Tok) (fb : Nat → Int32) (k : Nat) (j : Nat) (lv_ : Int32) (lev : Nat) (op_ : Int32) (opn : Nat) (ttl : tl.toInt = ((L : Nat) : Int)) (hL : L ≤ 120) (tpl : pl.toInt = ((pos : Nat) : Int)) (hpL : pos ≤ L) (hCH : CHR fb L c) (hLC : LC fs fw lz t0) (hfa : fa.toInt = 0) (htp : t0.length ≤ pos) (top_ : op_.toInt = ((opn : Nat) : Int)) (hok : opn + k = 6) (tlv_ : lv_.toInt = ((lev : Nat) : Int)) (hlj : lev + (j + 1) = 5) (ihT : ∀ (l : Launch) (D : va_G) (Y : Nat → ClassId) (tp : Nat) (tb : Nat) (lw : Nat) (tl : Int32) (pl : Int32) (fa : Int32) (pos : Nat) (L : Nat) (c : Nat → Int) (ws_ : Nat) (ww : Nat) (wt : Nat) (wn : Nat) (wg : Nat) (wi : Nat) (lz : Int32) (fs : Nat → Int32) (fw : Nat → Int32) (t0 : List Tok) (fb : Nat → Int32) (lv_ : Int32) (lev : Nat) (op_ : Int32) (opn : Nat) (ttl : tl.toInt = ((L : Nat) : Int)) (hL : L ≤ 120) (tpl : pl.toInt = ((pos : Nat) : Int)) (hpL : pos ≤ L) (hCH : CHR fb L c) (hLC : LC fs fw lz t0) (hfa : fa.toInt = 0) (htp : t0.length ≤ pos) (top_ : op_.toInt = ((opn : Nat) : Int)) (hok : opn + k = 6) (tlv_ : lv_.toInt = ((lev : Nat) : Int)) (hlj : lev + j = 5), Mg l yX9_readTerms wsX9_readTerms ({ frames := 7 * (k) + 9 + (j), cells := 0, slots := 0, locals := 250 * (k) + 430 + 30 * (j) }) D Y [(tp, .inr (8, [.ref tb, .int tl, .ref lw, .int pl, .int fa])), (tb, .inl (Y 0, 120, .inl fb)), (lw, .inr (4, [.ref ws_, .ref ww, .ref wt, .ref wn, .ref wg, .ref wi, .int lz])), (ws_, .inl (Y 0, 128, .inl fs)), (ww, .inl (Y 0, 128, .inl fw))] [.ref tp, .int lv_, .int op_] 0 0 (fun vv__ ww__ => (∃ (q : Nat), ∃ (ts : List Tok), ∃ (pl2 : Int32), ∃ (lz2 : Int32), ∃ (fs2 : Nat → Int32), ∃ (fw2 : Nat → Int32), vv__ = none ∧ ww__ = [(tp, .inr (8, [.ref tb, .int tl, .ref lw, .int pl2, .int fa])), (tb, .inl (Y 0, 120, .inl fb)), (lw, .inr (4, [.ref ws_, .ref ww, .ref wt, .ref wn, .ref wg, .ref wi, .int lz2])), (ws_, .inl (Y 0, 128, .inl fs2)), (ww, .inl (Y 0, 128, .inl fw2))] ∧ (pl2.toInt = ((q : Nat) : Int)) ∧ (pTm c (pOp c k) j pos = (q, some ts)) ∧ (pos + ts.length ≤ q ∧ q ≤ L) ∧ (LC fs2 fw2 lz2 (t0 ++ ts))) ∨ (∃ (q : Nat), ∃ (t1 : List Tok), ∃ (pl2 : Int32), ∃ (fa2 : Int32), ∃ (lz2 : Int32), ∃ (fs2 : Nat → Int32), ∃ (fw2 : Nat → Int32), vv__ = none ∧ ww__ = [(tp, .inr (8, [.ref tb, .int tl, .ref lw, .int pl2, .int fa2])), (tb, .inl (Y 0, 120, .inl fb)), (lw, .inr (4, [.ref ws_, .ref ww, .ref wt, .ref wn, .ref wg, .ref wi, .int lz2])), (ws_, .inl (Y 0, 128, .inl fs2)), (ww, .inl (Y 0, 128, .inl fw2))] ∧ (pl2.toInt = ((q : Nat) : Int)) ∧ (pTm c (pOp c k) j pos = (q, none)) ∧ (q ≤ L) ∧ (fa2.toInt ≠ 0 ∨ (48 ≤ c q ∧ c q ≤ 57)) ∧ (LC fs2 fw2 lz2 t1)))) : Mg l yX9_readTerms wsX9_readTerms ({ frames := 7 * (k) + 9 + ((j + 1)), cells := 0, slots := 0, locals := 250 * (k) + 430 + 30 * ((j + 1)) }) D Y [(tp, .inr (8, [.ref tb, .int tl, .ref lw, .int pl, .int fa])), (tb, .inl (Y 0, 120, .inl fb)), (lw, .inr (4, [.ref ws_, .ref ww, .ref wt, .ref wn, .ref wg, .ref wi, .int lz])), (ws_, .inl (Y 0, 128, .inl fs)), (ww, .inl (Y 0, 128, .inl fw))] [.ref tp, .int lv_, .int op_] 0 0 (fun vv__ ww__ => (∃ (q : Nat), ∃ (ts : List Tok), ∃ (pl2 : Int32), ∃ (lz2 : Int32), ∃ (fs2 : Nat → Int32), ∃ (fw2 : Nat → Int32), vv__ = none ∧ ww__ = [(tp, .inr (8, [.ref tb, .int tl, .ref lw, .int pl2, .int fa])), (tb, .inl (Y 0, 120, .inl fb)), (lw, .inr (4, [.ref ws_, .ref ww, .ref wt, .ref wn, .ref wg, .ref wi, .int lz2])), (ws_, .inl (Y 0, 128, .inl fs2)), (ww, .inl (Y 0, 128, .inl fw2))] ∧ (pl2.toInt = ((q : Nat) : Int)) ∧ (pTm c (pOp c k) (j + 1) pos = (q, some ts)) ∧ (pos + ts.length ≤ q ∧ q ≤ L) ∧ (LC fs2 fw2 lz2 (t0 ++ ts))) ∨ (∃ (q : Nat), ∃ (t1 : List Tok), ∃ (pl2 : Int32), ∃ (fa2 : Int32), ∃ (lz2 : Int32), ∃ (fs2 : Nat → Int32), ∃ (fw2 : Nat → Int32), vv__ = none ∧ ww__ = [(tp, .inr (8, [.ref tb, .int tl, .ref lw, .int pl2, .int fa2])), (tb, .inl (Y 0, 120, .inl fb)), (lw, .inr (4, [.ref ws_, .ref ww, .ref wt, .ref wn, .ref wg, .ref wi, .int lz2])), (ws_, .inl (Y 0, 128, .inl fs2)), (ww, .inl (Y 0, 128, .inl fw2))] ∧ (pl2.toInt = ((q : Nat) : Int)) ∧ (pTm c (pOp c k) (j + 1) pos = (q, none)) ∧ (q ≤ L) ∧ (fa2.toInt ≠ 0 ∨ (48 ≤ c q ∧ c q ≤ 57)) ∧ (LC fs2 fw2 lz2 t1))) := by
  refine Mg_of (cc := cX9_readTerms) (maxL := 5) (ret := none) (ls0 := [(0, .ref tp), (1, .int lv_), (2, .int op_)]) RX9 (by decide) rfl rfl rfl (Nat.le_of_ble_eq_true rfl) (fun p__ e__ s__ m__ b__ t__ c__ X hr hn => ?_)
  refine V_iload_n X 1 rfl dX9_readTerms_0 ?_
  refine V_iconst (v := (5 : Int32)) X (by decide) dX9_readTerms_1 ?_
  refine V_icmp_lt X tlv_ (show (5 : Int32).toInt = 5 from by decide) 11 dX9_readTerms_2 (by decide) (fun c_2 => ?_) (fun c_2 => False.elim (by omega))
  refine V_aload_n X 0 rfl dX9_readTerms_11 ?_
  refine V_iload_n X 1 rfl dX9_readTerms_12 ?_
  refine V_iconst (v := (1 : Int32)) X (by decide) dX9_readTerms_13 ?_
  refine V_iaddZ X tlv_ (show (1 : Int32).toInt = 1 from by decide) (by omega) (by omega) dX9_readTerms_14 (fun x_1 ex_1 tx_1 => ?_)
  have tx_1 : x_1.toInt = (((lev + 1) : Nat) : Int) := by omega
  refine V_iload_n X 2 rfl dX9_readTerms_15 ?_
  refine V_callV (C := RX9) (wr := []) (st := []) X (ihT l D Y tp tb lw tl pl fa pos L c ws_ ww wt wn wg wi lz fs fw t0 fb x_1 (lev + 1) op_ opn ttl hL tpl hpL hCH hLC hfa htp top_ hok tx_1 (by omega)) 2 gX9_readTerms_X9_readTerms rfl (by decide +kernel) ⟨rfl, rfl⟩ ⟨(by simp only [headSpec]; omega), (by simp only [headSpec]; omega)⟩ [0, 1, 2, 3, 4] [] rfl rfl rfl rfl (by decide) (ci := 8) rfl rfl 0 rfl rfl rfl (Nat.le_of_ble_eq_true rfl) ⟨Nat.le_of_ble_eq_true rfl, Nat.le_of_ble_eq_true rfl⟩ dX9_readTerms_16 (fun v_16 w_16 h_16 => ?_)
  rcases h_16 with ⟨q_f, ts_f, pl2_5, lz2_6, fs2_7, fw2_8, rfl, rfl, tplf, hRf, hqbf, hLf⟩ | ⟨q_f, t1_f, pl2_15, fa2_16, lz2_17, fs2_18, fw2_19, rfl, rfl, tplf, hRf, hqLf, hDf, hLf⟩
  · refine V_to (pc' := 19) (ls' := [(0, .ref tp), (1, .int lv_), (2, .int op_)]) (st' := []) (ws' := [(tp, .inr (8, [.ref tb, .int tl, .ref lw, .int pl2_5, .int fa])), (tb, .inl (Y 0, 120, .inl fb)), (lw, .inr (4, [.ref ws_, .ref ww, .ref wt, .ref wn, .ref wg, .ref wi, .int lz2_6])), (ws_, .inl (Y 0, 128, .inl fs2_7)), (ww, .inl (Y 0, 128, .inl fw2_8))]) ?_ rfl rfl rfl rfl
    refine V_iconst (v := (0 : Int32)) X (by decide) dX9_readTerms_19 ?_
    refine V_istore_n (ls' := [(3, .int (0 : Int32)), (0, .ref tp), (1, .int lv_), (2, .int op_)]) X (by decide) rfl dX9_readTerms_20 ?_
    refine V_ls (ls' := [(0, .ref tp), (1, .int lv_), (2, .int op_), (3, .int (0 : Int32))]) [1, 2, 3, 0] rfl ?_
    refine V_to (V_ind9 (fun (i3 : Int32) (i : Nat) (p3 : Int32) (q : Nat) (fa3 : Int32) (lz3 : Int32) (fs3 : Nat → Int32) (fw3 : Nat → Int32) (t3 : List Tok) => (i3.toInt = ((i : Nat) : Int)) ∧ (p3.toInt = ((q : Nat) : Int)) ∧ (i ≤ 120) ∧ (q ≤ L) ∧ (LC fs3 fw3 lz3 t3) ∧ ((fa3 = fa ∧ ∃ ts, t3 = t0 ++ ts ∧ pos + ts.length ≤ q ∧ pLp c (pTm c (pOp c k) j) lev (120 - i) q ts = pTm c (pOp c k) (j + 1) pos) ∨ ((fa3.toInt ≠ 0 ∨ (48 ≤ c q ∧ c q ≤ 57)) ∧ pTm c (pOp c k) (j + 1) pos = (q, none)))) (fun (i3 : Int32) (i : Nat) (p3 : Int32) (q : Nat) (fa3 : Int32) (lz3 : Int32) (fs3 : Nat → Int32) (fw3 : Nat → Int32) (t3 : List Tok) => 120 - i) (fun (i3 : Int32) (i : Nat) (p3 : Int32) (q : Nat) (fa3 : Int32) (lz3 : Int32) (fs3 : Nat → Int32) (fw3 : Nat → Int32) (t3 : List Tok) => [(0, .ref tp), (1, .int lv_), (2, .int op_), (3, .int i3)]) (fun (i3 : Int32) (i : Nat) (p3 : Int32) (q : Nat) (fa3 : Int32) (lz3 : Int32) (fs3 : Nat → Int32) (fw3 : Nat → Int32) (t3 : List Tok) => [(tp, .inr (8, [.ref tb, .int tl, .ref lw, .int p3, .int fa3])), (tb, .inl (Y 0, 120, .inl fb)), (lw, .inr (4, [.ref ws_, .ref ww, .ref wt, .ref wn, .ref wg, .ref wi, .int lz3])), (ws_, .inl (Y 0, 128, .inl fs3)), (ww, .inl (Y 0, 128, .inl fw3))]) (fun i3 i p3 q fa3 lz3 fs3 fw3 t3 hI_21 ih_21 => ?_) (0 : Int32) 0 pl2_5 q_f fa lz2_6 fs2_7 fw2_8 (t0 ++ ts_f) ?_) rfl rfl rfl rfl
    · obtain ⟨ti3, tp3, hi, hqL3, hLC3, hLI⟩ := hI_21
      refine V_to (ls' := [(0, .ref tp), (1, .int lv_), (2, .int op_), (3, .int i3)]) (ws' := [(tp, .inr (8, [.ref tb, .int tl, .ref lw, .int p3, .int fa3])), (tb, .inl (Y 0, 120, .inl fb)), (lw, .inr (4, [.ref ws_, .ref ww, .ref wt, .ref wn, .ref wg, .ref wi, .int lz3])), (ws_, .inl (Y 0, 128, .inl fs3)), (ww, .inl (Y 0, 128, .inl fw3))]) ?_ rfl rfl rfl rfl
      refine V_iload_n X 3 rfl dX9_readTerms_21 ?_
      refine V_bipush (v := (120 : Int32)) X (by decide) dX9_readTerms_22 ?_
      refine V_icmp_ge X ti3 (show (120 : Int32).toInt = 120 from by decide) 84 dX9_readTerms_24 (by decide) (fun c_24 => ?_) (fun c_24 => ?_)
      · rcases hLI with hAL | hDD
        · refine V_to (ws' := [(tp, .inr (8, [.ref tb, .int tl, .ref lw, .int p3, .int fa])), (tb, .inl (Y 0, 120, .inl fb)), (lw, .inr (4, [.ref ws_, .ref ww, .ref wt, .ref wn, .ref wg, .ref wi, .int lz3])), (ws_, .inl (Y 0, 128, .inl fs3)), (ww, .inl (Y 0, 128, .inl fw3))]) ?_ rfl rfl rfl (by rw [hAL.1])
          exact V_vret X hr dX9_readTerms_84 (Or.inl ⟨q, (hAL.2.choose), p3, lz3, fs3, fw3, rfl, rfl, tp3, (pLp_x hAL.2.choose_spec.2.2 (Or.inl (by omega))), ⟨hAL.2.choose_spec.2.1, hqL3⟩, (hAL.2.choose_spec.1 ▸ hLC3)⟩)
        · exact V_vret X hr dX9_readTerms_84 (Or.inr (⟨q, t3, p3, fa3, lz3, fs3, fw3, rfl, rfl, tp3, hDD.2, hqL3, hDD.1, hLC3⟩))
      · refine V_aload_n X 0 rfl dX9_readTerms_27 ?_
        refine V_callV (C := RX9) (wr := [(lw, .inr (4, [.ref ws_, .ref ww, .ref wt, .ref wn, .ref wg, .ref wi, .int lz3])), (ws_, .inl (Y 0, 128, .inl fs3)), (ww, .inl (Y 0, 128, .inl fw3))]) (st := []) X (c_X9_peek l D Y tp tb lw tl p3 fa3 q L c fb ttl hL tp3 hqL3 hCH) 0 gX9_readTerms_X9_peek rfl (by decide +kernel) ⟨rfl, rfl⟩ ⟨(by simp only [headSpec]; omega), (by simp only [headSpec]; omega)⟩ [0, 1] [2, 3, 4] rfl rfl rfl rfl (by decide) (ci := 8) rfl rfl 0 rfl rfl rfl (Nat.le_of_ble_eq_true rfl) ⟨Nat.le_of_ble_eq_true rfl, Nat.le_of_ble_eq_true rfl⟩ dX9_readTerms_28 (fun v_28 w_28 h_28 => ?_)
        obtain ⟨r_26, rfl, rfl, hhpk_27, hhpv_28⟩ := h_28
        refine V_to (pc' := 31) (ls' := [(0, .ref tp), (1, .int lv_), (2, .int op_), (3, .int i3)]) (st' := [.int r_26]) (ws' := [(lw, .inr (4, [.ref ws_, .ref ww, .ref wt, .ref wn, .ref wg, .ref wi, .int lz3])), (ws_, .inl (Y 0, 128, .inl fs3)), (ww, .inl (Y 0, 128, .inl fw3)), (tp, .inr (8, [.ref tb, .int tl, .ref lw, .int p3, .int fa3])), (tb, .inl (Y 0, 120, .inl fb))]) ?_ rfl rfl rfl rfl
        refine V_callS (wr := [(lw, .inr (4, [.ref ws_, .ref ww, .ref wt, .ref wn, .ref wg, .ref wi, .int lz3])), (ws_, .inl (Y 0, 128, .inl fs3)), (ww, .inl (Y 0, 128, .inl fw3)), (tp, .inr (8, [.ref tb, .int tl, .ref lw, .int p3, .int fa3])), (tb, .inl (Y 0, 120, .inl fb))]) (st := []) X (c_X9_levelOf l D Y r_26) 1 gX9_readTerms_X9_levelOf rfl (by decide +kernel) ⟨rfl, rfl⟩ ⟨(by simp only [headSpec]; omega), (by simp only [headSpec]; omega)⟩ [] [0, 1, 2, 3, 4] rfl rfl rfl rfl (by decide) rfl rfl (Nat.le_of_ble_eq_true rfl) ⟨Nat.le_of_ble_eq_true rfl, Nat.le_of_ble_eq_true rfl⟩ dX9_readTerms_31 (fun v_31 w_31 h_31 => ?_)
        obtain ⟨r_30, rfl, rfl, htr_31⟩ := h_31
        refine V_to (pc' := 34) (ls' := [(0, .ref tp), (1, .int lv_), (2, .int op_), (3, .int i3)]) (st' := [.int r_30]) (ws' := [(lw, .inr (4, [.ref ws_, .ref ww, .ref wt, .ref wn, .ref wg, .ref wi, .int lz3])), (ws_, .inl (Y 0, 128, .inl fs3)), (ww, .inl (Y 0, 128, .inl fw3)), (tp, .inr (8, [.ref tb, .int tl, .ref lw, .int p3, .int fa3])), (tb, .inl (Y 0, 120, .inl fb))]) ?_ rfl rfl rfl rfl
        refine V_iload_n X 1 rfl dX9_readTerms_34 ?_
        refine V_icmp_ne X htr_31 tlv_ 84 dX9_readTerms_35 (by decide) (fun c_35 => ?_) (fun c_35 => ?_)
        · rcases hLI with hAL | hDD
          · refine V_to (ws' := [(lw, .inr (4, [.ref ws_, .ref ww, .ref wt, .ref wn, .ref wg, .ref wi, .int lz3])), (ws_, .inl (Y 0, 128, .inl fs3)), (ww, .inl (Y 0, 128, .inl fw3)), (tp, .inr (8, [.ref tb, .int tl, .ref lw, .int p3, .int fa])), (tb, .inl (Y 0, 120, .inl fb))]) ?_ rfl rfl rfl (by rw [hAL.1])
            refine V_ws (ws' := [(tp, .inr (8, [.ref tb, .int tl, .ref lw, .int p3, .int fa])), (tb, .inl (Y 0, 120, .inl fb)), (lw, .inr (4, [.ref ws_, .ref ww, .ref wt, .ref wn, .ref wg, .ref wi, .int lz3])), (ws_, .inl (Y 0, 128, .inl fs3)), (ww, .inl (Y 0, 128, .inl fw3))]) [3, 4, 0, 1, 2] rfl rfl rfl ?_
            exact V_vret X hr dX9_readTerms_84 (Or.inl ⟨q, (hAL.2.choose), p3, lz3, fs3, fw3, rfl, rfl, tp3, (pLp_x hAL.2.choose_spec.2.2 (Or.inr (by rw [← lvC_PK (PK_0 hhpk_27 (hAL.1 ▸ hfa))]; omega))), ⟨hAL.2.choose_spec.2.1, hqL3⟩, (hAL.2.choose_spec.1 ▸ hLC3)⟩)
          · refine V_ws (ws' := [(tp, .inr (8, [.ref tb, .int tl, .ref lw, .int p3, .int fa3])), (tb, .inl (Y 0, 120, .inl fb)), (lw, .inr (4, [.ref ws_, .ref ww, .ref wt, .ref wn, .ref wg, .ref wi, .int lz3])), (ws_, .inl (Y 0, 128, .inl fs3)), (ww, .inl (Y 0, 128, .inl fw3))]) [3, 4, 0, 1, 2] rfl rfl rfl ?_
            exact V_vret X hr dX9_readTerms_84 (Or.inr (⟨q, t3, p3, fa3, lz3, fs3, fw3, rfl, rfl, tp3, hDD.2, hqL3, hDD.1, hLC3⟩))
        · have hpe := hhpk_27
          have hAL := hLI.resolve_right (fun hDD => by have h9 := lvC_dead (PK_dead hpe hDD.1); omega)
          obtain ⟨h0a, ts_, ht3, hb3, hP3⟩ := hAL
          refine V_to (ws' := [(lw, .inr (4, [.ref ws_, .ref ww, .ref wt, .ref wn, .ref wg, .ref wi, .int lz3])), (ws_, .inl (Y 0, 128, .inl fs3)), (ww, .inl (Y 0, 128, .inl fw3)), (tp, .inr (8, [.ref tb, .int tl, .ref lw, .int p3, .int fa])), (tb, .inl (Y 0, 120, .inl fb))]) ?_ rfl rfl rfl (by rw [h0a])
          have hlc : lvC (c q) = ((lev : Nat) : Int) := by rw [← lvC_PK (PK_0 hpe (h0a ▸ hfa))]; omega
          have hcb := lvC_big (show lvC (c q) ≠ -2 by omega)
          have hqlt := CHR_lt hCH (show c q ≠ -1 by omega)
          refine V_aload_n X 0 rfl dX9_readTerms_38 ?_
          refine V_callV (C := RX9) (wr := [(lw, .inr (4, [.ref ws_, .ref ww, .ref wt, .ref wn, .ref wg, .ref wi, .int lz3])), (ws_, .inl (Y 0, 128, .inl fs3)), (ww, .inl (Y 0, 128, .inl fw3))]) (st := []) X (c_X9_peek l D Y tp tb lw tl p3 fa q L c fb ttl hL tp3 hqL3 hCH) 0 gX9_readTerms_X9_peek rfl (by decide +kernel) ⟨rfl, rfl⟩ ⟨(by simp only [headSpec]; omega), (by simp only [headSpec]; omega)⟩ [3, 4] [0, 1, 2] rfl rfl rfl rfl (by decide) (ci := 8) rfl rfl 0 rfl rfl rfl (Nat.le_of_ble_eq_true rfl) ⟨Nat.le_of_ble_eq_true rfl, Nat.le_of_ble_eq_true rfl⟩ dX9_readTerms_39 (fun v_39 w_39 h_39 => ?_)
          obtain ⟨r_33, rfl, rfl, hhpk_34, hhpv_35⟩ := h_39
          refine V_to (pc' := 42) (ls' := [(0, .ref tp), (1, .int lv_), (2, .int op_), (3, .int i3)]) (st' := [.int r_33]) (ws' := [(lw, .inr (4, [.ref ws_, .ref ww, .ref wt, .ref wn, .ref wg, .ref wi, .int lz3])), (ws_, .inl (Y 0, 128, .inl fs3)), (ww, .inl (Y 0, 128, .inl fw3)), (tp, .inr (8, [.ref tb, .int tl, .ref lw, .int p3, .int fa])), (tb, .inl (Y 0, 120, .inl fb))]) ?_ rfl rfl rfl rfl
          have hop : r_33.toInt = c q := by have h9 := PK_0 hhpk_34 hfa; unfold PK at h9; omega
          refine V_istore (ls' := [(4, .int r_33), (0, .ref tp), (1, .int lv_), (2, .int op_), (3, .int i3)]) X (by decide) rfl dX9_readTerms_42 ?_
          refine V_aload_n X 1 rfl dX9_readTerms_44 ?_
          refine V_dup X rfl dX9_readTerms_45 ?_
          refine V_get (C := RX9) (T := TX9) (N := 5) (ci := 8) (v := .int p3) X in_X9_readTerms_X9 3 rfl rfl 3 (by decide) (List.mem_of_getElem? (i := 1) rfl) rfl rfl dX9_readTerms_46 ?_
          refine V_iconst (v := (1 : Int32)) X (by decide) dX9_readTerms_49 ?_
          refine V_iaddZ X tp3 (show (1 : Int32).toInt = 1 from by decide) (by omega) (by omega) dX9_readTerms_50 (fun x_36 ex_36 tx_36 => ?_)
          have tx_36 : x_36.toInt = (((q + 1) : Nat) : Int) := by omega
          refine V_put (C := RX9) (T := TX9) (N := 5) (ci := 8) (v := .int x_36) (ty := tyX9 3) (ws' := [(lw, .inr (4, [.ref ws_, .ref ww, .ref wt, .ref wn, .ref wg, .ref wi, .int lz3])), (ws_, .inl (Y 0, 128, .inl fs3)), (ww, .inl (Y 0, 128, .inl fw3)), (tp, .inr (8, [.ref tb, .int tl, .ref lw, .int x_36, .int fa])), (tb, .inl (Y 0, 120, .inl fb))]) X in_X9_readTerms_X9 3 rfl rfl 3 (by decide) (List.mem_of_getElem? (i := 1) rfl) rfl tyX9 tyX9_ok nmX9 rfl (tyX9_ok 3 (by decide)) rfl rfl (Nat.le_of_ble_eq_true rfl) rfl dX9_readTerms_51 ?_
          refine V_aload_n X 1 rfl dX9_readTerms_54 ?_
          refine V_iload_n X 2 rfl dX9_readTerms_55 ?_
          refine V_iconst (v := (1 : Int32)) X (by decide) dX9_readTerms_56 ?_
          refine V_iaddZ X tlv_ (show (1 : Int32).toInt = 1 from by decide) (by omega) (by omega) dX9_readTerms_57 (fun x_37 ex_37 tx_37 => ?_)
          have tx_37 : x_37.toInt = (((lev + 1) : Nat) : Int) := by omega
          refine V_iload_n X 3 rfl dX9_readTerms_58 ?_
          refine V_callV (C := RX9) (wr := []) (st := []) X (ihT l D Y tp tb lw tl x_36 fa (q + 1) L c ws_ ww wt wn wg wi lz3 fs3 fw3 t3 fb x_37 (lev + 1) op_ opn ttl hL tx_36 (by omega) hCH hLC3 hfa (by have h9 := congrArg List.length ht3; rw [List.length_append] at h9; omega) top_ hok tx_37 (by omega)) 2 gX9_readTerms_X9_readTerms rfl (by decide +kernel) ⟨rfl, rfl⟩ ⟨(by simp only [headSpec]; omega), (by simp only [headSpec]; omega)⟩ [3, 4, 0, 1, 2] [] rfl rfl rfl rfl (by decide) (ci := 8) rfl rfl 0 rfl rfl rfl (Nat.le_of_ble_eq_true rfl) ⟨Nat.le_of_ble_eq_true rfl, Nat.le_of_ble_eq_true rfl⟩ dX9_readTerms_59 (fun v_59 w_59 h_59 => ?_)
          rcases h_59 with ⟨q_g, ts_g, pl2_41, lz2_42, fs2_43, fw2_44, rfl, rfl, tplg, hRg, hqbg, hLg⟩ | ⟨q_g, t1_g, pl2_51, fa2_52, lz2_53, fs2_54, fw2_55, rfl, rfl, tplg, hRg, hqLg, hDg, hLg⟩
          · refine V_to (pc' := 62) (ls' := [(4, .int r_33), (0, .ref tp), (1, .int lv_), (2, .int op_), (3, .int i3)]) (st' := []) (ws' := [(tp, .inr (8, [.ref tb, .int tl, .ref lw, .int pl2_41, .int fa])), (tb, .inl (Y 0, 120, .inl fb)), (lw, .inr (4, [.ref ws_, .ref ww, .ref wt, .ref wn, .ref wg, .ref wi, .int lz2_42])), (ws_, .inl (Y 0, 128, .inl fs2_43)), (ww, .inl (Y 0, 128, .inl fw2_44))]) ?_ rfl rfl rfl rfl
            refine V_aload_n X 1 rfl dX9_readTerms_62 ?_
            refine V_get (C := RX9) (T := TX9) (N := 5) (ci := 8) (v := .ref lw) X in_X9_readTerms_X9 0 rfl rfl 2 (by decide) (List.mem_of_getElem? (i := 2) rfl) rfl rfl dX9_readTerms_63 ?_
            refine V_iload X 0 rfl dX9_readTerms_66 ?_
            refine V_iconst (v := (0 : Int32)) X (by decide) dX9_readTerms_68 ?_
            refine V_callV (C := RX5) (wr := [(tp, .inr (8, [.ref tb, .int tl, .ref lw, .int pl2_41, .int fa])), (tb, .inl (Y 0, 120, .inl fb))]) (st := []) X (c_X5_addT l D Y lw ws_ ww wt wn wg wi lz2_42 fs2_43 fw2_44 (t3 ++ ts_g) r_33 (0 : Int32) hLg) 2 gX9_readTerms_X5_add rfl (by decide +kernel) ⟨rfl, rfl⟩ ⟨(by simp only [headSpec]; omega), (by simp only [headSpec]; omega)⟩ [2, 3, 4] [0, 1] rfl rfl rfl rfl (by decide) (ci := 4) rfl rfl 0 rfl rfl rfl (Nat.le_of_ble_eq_true rfl) ⟨Nat.le_of_ble_eq_true rfl, Nat.le_of_ble_eq_true rfl⟩ dX9_readTerms_69 (fun v_69 w_69 h_69 => ?_)
            obtain ⟨lz2_62, fs2_63, fw2_64, t_a, rfl, rfl, hLa, hta⟩ := h_69
            refine V_to (pc' := 72) (ls' := [(4, .int r_33), (0, .ref tp), (1, .int lv_), (2, .int op_), (3, .int i3)]) (st' := []) (ws' := [(tp, .inr (8, [.ref tb, .int tl, .ref lw, .int pl2_41, .int fa])), (tb, .inl (Y 0, 120, .inl fb)), (lw, .inr (4, [.ref ws_, .ref ww, .ref wt, .ref wn, .ref wg, .ref wi, .int lz2_62])), (ws_, .inl (Y 0, 128, .inl fs2_63)), (ww, .inl (Y 0, 128, .inl fw2_64))]) ?_ rfl rfl rfl rfl
            have hc_0 : (0 : Int32).toInt = 0 := by decide
            have hT9 : t_a = t0 ++ (ts_ ++ ts_g ++ [(c q, 0)]) := by have h9 := congrArg List.length ht3; rw [List.length_append] at h9; have h8 := hta (by rw [List.length_append]; omega); rw [hop, show (0 : Int32).toInt = 0 from by decide] at h8; rw [h8, ht3]; simp only [List.append_assoc]
            have hB9 : pos + (ts_ ++ ts_g ++ [(c q, 0)]).length ≤ q_g := by rw [List.length_append, List.length_append, List.length_singleton]; omega
            refine V_iload_n X 2 rfl dX9_readTerms_72 ?_
            refine V_iconst (v := (2 : Int32)) X (by decide) dX9_readTerms_73 ?_
            refine V_icmp_ne X tlv_ (show (2 : Int32).toInt = 2 from by decide) 78 dX9_readTerms_74 (by decide) (fun c_74 => ?_) (fun c_74 => ?_)
            · refine V_iincZ X (fun vv_ => [(3, .int vv_), (4, .int r_33), (0, .ref tp), (1, .int lv_), (2, .int op_)]) ti3 (by omega) (by omega) (by decide) 4 rfl (by decide) (fun _ => rfl) dX9_readTerms_78 (fun x_68 ex_68 tx_68 => ?_)
              have tx_68 : x_68.toInt = (((i + 1) : Nat) : Int) := by omega
              refine V_goto X 21 (by decide) dX9_readTerms_81 ?_
              refine V_ls (ls' := [(0, .ref tp), (1, .int lv_), (2, .int op_), (3, .int x_68)]) [2, 3, 4, 0] rfl ?_
              exact V_to (ih_21 x_68 (i + 1) pl2_41 q_g fa lz2_62 fs2_63 fw2_64 t_a ⟨(by omega), tplg, (by omega), hqbg.2, hLa, (Or.inl ⟨rfl, ts_ ++ ts_g ++ [(c q, 0)], hT9, hB9, (by rw [show 120 - (i + 1) = 120 - i - 1 by omega]; exact pLp_y hP3 (by omega) hlc hRg (by omega))⟩)⟩ (by omega)) rfl rfl rfl rfl
            · exact V_vret X hr dX9_readTerms_77 (Or.inl ⟨q_g, (ts_ ++ ts_g ++ [(c q, 0)]), pl2_41, lz2_62, fs2_63, fw2_64, rfl, rfl, tplg, (pLp_2 hP3 (by omega) hlc hRg (by omega)), ⟨hB9, hqbg.2⟩, (hT9 ▸ hLa)⟩)
          · refine V_to (pc' := 62) (ls' := [(4, .int r_33), (0, .ref tp), (1, .int lv_), (2, .int op_), (3, .int i3)]) (st' := []) (ws' := [(tp, .inr (8, [.ref tb, .int tl, .ref lw, .int pl2_51, .int fa2_52])), (tb, .inl (Y 0, 120, .inl fb)), (lw, .inr (4, [.ref ws_, .ref ww, .ref wt, .ref wn, .ref wg, .ref wi, .int lz2_53])), (ws_, .inl (Y 0, 128, .inl fs2_54)), (ww, .inl (Y 0, 128, .inl fw2_55))]) ?_ rfl rfl rfl rfl
            refine V_aload_n X 1 rfl dX9_readTerms_62 ?_
            refine V_get (C := RX9) (T := TX9) (N := 5) (ci := 8) (v := .ref lw) X in_X9_readTerms_X9 0 rfl rfl 2 (by decide) (List.mem_of_getElem? (i := 2) rfl) rfl rfl dX9_readTerms_63 ?_
            refine V_iload X 0 rfl dX9_readTerms_66 ?_
            refine V_iconst (v := (0 : Int32)) X (by decide) dX9_readTerms_68 ?_
            refine V_callV (C := RX5) (wr := [(tp, .inr (8, [.ref tb, .int tl, .ref lw, .int pl2_51, .int fa2_52])), (tb, .inl (Y 0, 120, .inl fb))]) (st := []) X (c_X5_addT l D Y lw ws_ ww wt wn wg wi lz2_53 fs2_54 fw2_55 t1_g r_33 (0 : Int32) hLg) 2 gX9_readTerms_X5_add rfl (by decide +kernel) ⟨rfl, rfl⟩ ⟨(by simp only [headSpec]; omega), (by simp only [headSpec]; omega)⟩ [2, 3, 4] [0, 1] rfl rfl rfl rfl (by decide) (ci := 4) rfl rfl 0 rfl rfl rfl (Nat.le_of_ble_eq_true rfl) ⟨Nat.le_of_ble_eq_true rfl, Nat.le_of_ble_eq_true rfl⟩ dX9_readTerms_69 (fun v_69 w_69 h_69 => ?_)
            obtain ⟨lz2_70, fs2_71, fw2_72, t_a, rfl, rfl, hLa, hta⟩ := h_69
            refine V_to (pc' := 72) (ls' := [(4, .int r_33), (0, .ref tp), (1, .int lv_), (2, .int op_), (3, .int i3)]) (st' := []) (ws' := [(tp, .inr (8, [.ref tb, .int tl, .ref lw, .int pl2_51, .int fa2_52])), (tb, .inl (Y 0, 120, .inl fb)), (lw, .inr (4, [.ref ws_, .ref ww, .ref wt, .ref wn, .ref wg, .ref wi, .int lz2_70])), (ws_, .inl (Y 0, 128, .inl fs2_71)), (ww, .inl (Y 0, 128, .inl fw2_72))]) ?_ rfl rfl rfl rfl
            have hc_0 : (0 : Int32).toInt = 0 := by decide
            refine V_iload_n X 2 rfl dX9_readTerms_72 ?_
            refine V_iconst (v := (2 : Int32)) X (by decide) dX9_readTerms_73 ?_
            refine V_icmp_ne X tlv_ (show (2 : Int32).toInt = 2 from by decide) 78 dX9_readTerms_74 (by decide) (fun c_74 => ?_) (fun c_74 => ?_)
            · refine V_iincZ X (fun vv_ => [(3, .int vv_), (4, .int r_33), (0, .ref tp), (1, .int lv_), (2, .int op_)]) ti3 (by omega) (by omega) (by decide) 4 rfl (by decide) (fun _ => rfl) dX9_readTerms_78 (fun x_76 ex_76 tx_76 => ?_)
              have tx_76 : x_76.toInt = (((i + 1) : Nat) : Int) := by omega
              refine V_goto X 21 (by decide) dX9_readTerms_81 ?_
              refine V_ls (ls' := [(0, .ref tp), (1, .int lv_), (2, .int op_), (3, .int x_76)]) [2, 3, 4, 0] rfl ?_
              exact V_to (ih_21 x_76 (i + 1) pl2_51 q_g fa2_52 lz2_70 fs2_71 fw2_72 t_a ⟨(by omega), tplg, (by omega), hqLg, hLa, (Or.inr ⟨hDg, pLp_n hP3 (by omega) hlc hRg⟩)⟩ (by omega)) rfl rfl rfl rfl
            · exact V_vret X hr dX9_readTerms_77 (Or.inr (⟨q_g, t_a, pl2_51, fa2_52, lz2_70, fs2_71, fw2_72, rfl, rfl, tplg, (pLp_n hP3 (by omega) hlc hRg), hqLg, hDg, hLa⟩))
    · exact ⟨(by have h9 : (0 : Int32).toInt = 0 := (show (0 : Int32).toInt = 0 from by decide); omega), tplf, (by omega), hqbf.2, hLf, (Or.inl ⟨rfl, ts_f, rfl, hqbf.1, (show pTm c (pOp c k) (j + 1) pos = pLp c (pTm c (pOp c k) j) lev (120 - 0) q_f ts_f by (show pBd _ _ = _; rw [pBd_s hRf, show 4 - j = lev by omega])).symm⟩)⟩
  · refine V_to (pc' := 19) (ls' := [(0, .ref tp), (1, .int lv_), (2, .int op_)]) (st' := []) (ws' := [(tp, .inr (8, [.ref tb, .int tl, .ref lw, .int pl2_15, .int fa2_16])), (tb, .inl (Y 0, 120, .inl fb)), (lw, .inr (4, [.ref ws_, .ref ww, .ref wt, .ref wn, .ref wg, .ref wi, .int lz2_17])), (ws_, .inl (Y 0, 128, .inl fs2_18)), (ww, .inl (Y 0, 128, .inl fw2_19))]) ?_ rfl rfl rfl rfl
    refine V_iconst (v := (0 : Int32)) X (by decide) dX9_readTerms_19 ?_
    refine V_istore_n (ls' := [(3, .int (0 : Int32)), (0, .ref tp), (1, .int lv_), (2, .int op_)]) X (by decide) rfl dX9_readTerms_20 ?_
    refine V_ls (ls' := [(0, .ref tp), (1, .int lv_), (2, .int op_), (3, .int (0 : Int32))]) [1, 2, 3, 0] rfl ?_
    refine V_to (V_ind9 (fun (i3 : Int32) (i : Nat) (p3 : Int32) (q : Nat) (fa3 : Int32) (lz3 : Int32) (fs3 : Nat → Int32) (fw3 : Nat → Int32) (t3 : List Tok) => (i3.toInt = ((i : Nat) : Int)) ∧ (p3.toInt = ((q : Nat) : Int)) ∧ (i ≤ 120) ∧ (q ≤ L) ∧ (LC fs3 fw3 lz3 t3) ∧ ((fa3 = fa ∧ ∃ ts, t3 = t0 ++ ts ∧ pos + ts.length ≤ q ∧ pLp c (pTm c (pOp c k) j) lev (120 - i) q ts = pTm c (pOp c k) (j + 1) pos) ∨ ((fa3.toInt ≠ 0 ∨ (48 ≤ c q ∧ c q ≤ 57)) ∧ pTm c (pOp c k) (j + 1) pos = (q, none)))) (fun (i3 : Int32) (i : Nat) (p3 : Int32) (q : Nat) (fa3 : Int32) (lz3 : Int32) (fs3 : Nat → Int32) (fw3 : Nat → Int32) (t3 : List Tok) => 120 - i) (fun (i3 : Int32) (i : Nat) (p3 : Int32) (q : Nat) (fa3 : Int32) (lz3 : Int32) (fs3 : Nat → Int32) (fw3 : Nat → Int32) (t3 : List Tok) => [(0, .ref tp), (1, .int lv_), (2, .int op_), (3, .int i3)]) (fun (i3 : Int32) (i : Nat) (p3 : Int32) (q : Nat) (fa3 : Int32) (lz3 : Int32) (fs3 : Nat → Int32) (fw3 : Nat → Int32) (t3 : List Tok) => [(tp, .inr (8, [.ref tb, .int tl, .ref lw, .int p3, .int fa3])), (tb, .inl (Y 0, 120, .inl fb)), (lw, .inr (4, [.ref ws_, .ref ww, .ref wt, .ref wn, .ref wg, .ref wi, .int lz3])), (ws_, .inl (Y 0, 128, .inl fs3)), (ww, .inl (Y 0, 128, .inl fw3))]) (fun i3 i p3 q fa3 lz3 fs3 fw3 t3 hI_21 ih_21 => ?_) (0 : Int32) 0 pl2_15 q_f fa2_16 lz2_17 fs2_18 fw2_19 t1_f ?_) rfl rfl rfl rfl
    · obtain ⟨ti3, tp3, hi, hqL3, hLC3, hLI⟩ := hI_21
      refine V_to (ls' := [(0, .ref tp), (1, .int lv_), (2, .int op_), (3, .int i3)]) (ws' := [(tp, .inr (8, [.ref tb, .int tl, .ref lw, .int p3, .int fa3])), (tb, .inl (Y 0, 120, .inl fb)), (lw, .inr (4, [.ref ws_, .ref ww, .ref wt, .ref wn, .ref wg, .ref wi, .int lz3])), (ws_, .inl (Y 0, 128, .inl fs3)), (ww, .inl (Y 0, 128, .inl fw3))]) ?_ rfl rfl rfl rfl
      refine V_iload_n X 3 rfl dX9_readTerms_21 ?_
      refine V_bipush (v := (120 : Int32)) X (by decide) dX9_readTerms_22 ?_
      refine V_icmp_ge X ti3 (show (120 : Int32).toInt = 120 from by decide) 84 dX9_readTerms_24 (by decide) (fun c_24 => ?_) (fun c_24 => ?_)
      · rcases hLI with hAL | hDD
        · refine V_to (ws' := [(tp, .inr (8, [.ref tb, .int tl, .ref lw, .int p3, .int fa])), (tb, .inl (Y 0, 120, .inl fb)), (lw, .inr (4, [.ref ws_, .ref ww, .ref wt, .ref wn, .ref wg, .ref wi, .int lz3])), (ws_, .inl (Y 0, 128, .inl fs3)), (ww, .inl (Y 0, 128, .inl fw3))]) ?_ rfl rfl rfl (by rw [hAL.1])
          exact V_vret X hr dX9_readTerms_84 (Or.inl ⟨q, (hAL.2.choose), p3, lz3, fs3, fw3, rfl, rfl, tp3, (pLp_x hAL.2.choose_spec.2.2 (Or.inl (by omega))), ⟨hAL.2.choose_spec.2.1, hqL3⟩, (hAL.2.choose_spec.1 ▸ hLC3)⟩)
        · exact V_vret X hr dX9_readTerms_84 (Or.inr (⟨q, t3, p3, fa3, lz3, fs3, fw3, rfl, rfl, tp3, hDD.2, hqL3, hDD.1, hLC3⟩))
      · refine V_aload_n X 0 rfl dX9_readTerms_27 ?_
        refine V_callV (C := RX9) (wr := [(lw, .inr (4, [.ref ws_, .ref ww, .ref wt, .ref wn, .ref wg, .ref wi, .int lz3])), (ws_, .inl (Y 0, 128, .inl fs3)), (ww, .inl (Y 0, 128, .inl fw3))]) (st := []) X (c_X9_peek l D Y tp tb lw tl p3 fa3 q L c fb ttl hL tp3 hqL3 hCH) 0 gX9_readTerms_X9_peek rfl (by decide +kernel) ⟨rfl, rfl⟩ ⟨(by simp only [headSpec]; omega), (by simp only [headSpec]; omega)⟩ [0, 1] [2, 3, 4] rfl rfl rfl rfl (by decide) (ci := 8) rfl rfl 0 rfl rfl rfl (Nat.le_of_ble_eq_true rfl) ⟨Nat.le_of_ble_eq_true rfl, Nat.le_of_ble_eq_true rfl⟩ dX9_readTerms_28 (fun v_28 w_28 h_28 => ?_)
        obtain ⟨r_78, rfl, rfl, hhpk_79, hhpv_80⟩ := h_28
        refine V_to (pc' := 31) (ls' := [(0, .ref tp), (1, .int lv_), (2, .int op_), (3, .int i3)]) (st' := [.int r_78]) (ws' := [(lw, .inr (4, [.ref ws_, .ref ww, .ref wt, .ref wn, .ref wg, .ref wi, .int lz3])), (ws_, .inl (Y 0, 128, .inl fs3)), (ww, .inl (Y 0, 128, .inl fw3)), (tp, .inr (8, [.ref tb, .int tl, .ref lw, .int p3, .int fa3])), (tb, .inl (Y 0, 120, .inl fb))]) ?_ rfl rfl rfl rfl
        refine V_callS (wr := [(lw, .inr (4, [.ref ws_, .ref ww, .ref wt, .ref wn, .ref wg, .ref wi, .int lz3])), (ws_, .inl (Y 0, 128, .inl fs3)), (ww, .inl (Y 0, 128, .inl fw3)), (tp, .inr (8, [.ref tb, .int tl, .ref lw, .int p3, .int fa3])), (tb, .inl (Y 0, 120, .inl fb))]) (st := []) X (c_X9_levelOf l D Y r_78) 1 gX9_readTerms_X9_levelOf rfl (by decide +kernel) ⟨rfl, rfl⟩ ⟨(by simp only [headSpec]; omega), (by simp only [headSpec]; omega)⟩ [] [0, 1, 2, 3, 4] rfl rfl rfl rfl (by decide) rfl rfl (Nat.le_of_ble_eq_true rfl) ⟨Nat.le_of_ble_eq_true rfl, Nat.le_of_ble_eq_true rfl⟩ dX9_readTerms_31 (fun v_31 w_31 h_31 => ?_)
        obtain ⟨r_82, rfl, rfl, htr_83⟩ := h_31
        refine V_to (pc' := 34) (ls' := [(0, .ref tp), (1, .int lv_), (2, .int op_), (3, .int i3)]) (st' := [.int r_82]) (ws' := [(lw, .inr (4, [.ref ws_, .ref ww, .ref wt, .ref wn, .ref wg, .ref wi, .int lz3])), (ws_, .inl (Y 0, 128, .inl fs3)), (ww, .inl (Y 0, 128, .inl fw3)), (tp, .inr (8, [.ref tb, .int tl, .ref lw, .int p3, .int fa3])), (tb, .inl (Y 0, 120, .inl fb))]) ?_ rfl rfl rfl rfl
        refine V_iload_n X 1 rfl dX9_readTerms_34 ?_
        refine V_icmp_ne X htr_83 tlv_ 84 dX9_readTerms_35 (by decide) (fun c_35 => ?_) (fun c_35 => ?_)
        · rcases hLI with hAL | hDD
          · refine V_to (ws' := [(lw, .inr (4, [.ref ws_, .ref ww, .ref wt, .ref wn, .ref wg, .ref wi, .int lz3])), (ws_, .inl (Y 0, 128, .inl fs3)), (ww, .inl (Y 0, 128, .inl fw3)), (tp, .inr (8, [.ref tb, .int tl, .ref lw, .int p3, .int fa])), (tb, .inl (Y 0, 120, .inl fb))]) ?_ rfl rfl rfl (by rw [hAL.1])
            refine V_ws (ws' := [(tp, .inr (8, [.ref tb, .int tl, .ref lw, .int p3, .int fa])), (tb, .inl (Y 0, 120, .inl fb)), (lw, .inr (4, [.ref ws_, .ref ww, .ref wt, .ref wn, .ref wg, .ref wi, .int lz3])), (ws_, .inl (Y 0, 128, .inl fs3)), (ww, .inl (Y 0, 128, .inl fw3))]) [3, 4, 0, 1, 2] rfl rfl rfl ?_
            exact V_vret X hr dX9_readTerms_84 (Or.inl ⟨q, (hAL.2.choose), p3, lz3, fs3, fw3, rfl, rfl, tp3, (pLp_x hAL.2.choose_spec.2.2 (Or.inr (by rw [← lvC_PK (PK_0 hhpk_79 (hAL.1 ▸ hfa))]; omega))), ⟨hAL.2.choose_spec.2.1, hqL3⟩, (hAL.2.choose_spec.1 ▸ hLC3)⟩)
          · refine V_ws (ws' := [(tp, .inr (8, [.ref tb, .int tl, .ref lw, .int p3, .int fa3])), (tb, .inl (Y 0, 120, .inl fb)), (lw, .inr (4, [.ref ws_, .ref ww, .ref wt, .ref wn, .ref wg, .ref wi, .int lz3])), (ws_, .inl (Y 0, 128, .inl fs3)), (ww, .inl (Y 0, 128, .inl fw3))]) [3, 4, 0, 1, 2] rfl rfl rfl ?_
            exact V_vret X hr dX9_readTerms_84 (Or.inr (⟨q, t3, p3, fa3, lz3, fs3, fw3, rfl, rfl, tp3, hDD.2, hqL3, hDD.1, hLC3⟩))
        · have hpe := hhpk_79
          have hAL := hLI.resolve_right (fun hDD => by have h9 := lvC_dead (PK_dead hpe hDD.1); omega)
          obtain ⟨h0a, ts_, ht3, hb3, hP3⟩ := hAL
          refine V_to (ws' := [(lw, .inr (4, [.ref ws_, .ref ww, .ref wt, .ref wn, .ref wg, .ref wi, .int lz3])), (ws_, .inl (Y 0, 128, .inl fs3)), (ww, .inl (Y 0, 128, .inl fw3)), (tp, .inr (8, [.ref tb, .int tl, .ref lw, .int p3, .int fa])), (tb, .inl (Y 0, 120, .inl fb))]) ?_ rfl rfl rfl (by rw [h0a])
          have hlc : lvC (c q) = ((lev : Nat) : Int) := by rw [← lvC_PK (PK_0 hpe (h0a ▸ hfa))]; omega
          have hcb := lvC_big (show lvC (c q) ≠ -2 by omega)
          have hqlt := CHR_lt hCH (show c q ≠ -1 by omega)
          refine V_aload_n X 0 rfl dX9_readTerms_38 ?_
          refine V_callV (C := RX9) (wr := [(lw, .inr (4, [.ref ws_, .ref ww, .ref wt, .ref wn, .ref wg, .ref wi, .int lz3])), (ws_, .inl (Y 0, 128, .inl fs3)), (ww, .inl (Y 0, 128, .inl fw3))]) (st := []) X (c_X9_peek l D Y tp tb lw tl p3 fa q L c fb ttl hL tp3 hqL3 hCH) 0 gX9_readTerms_X9_peek rfl (by decide +kernel) ⟨rfl, rfl⟩ ⟨(by simp only [headSpec]; omega), (by simp only [headSpec]; omega)⟩ [3, 4] [0, 1, 2] rfl rfl rfl rfl (by decide) (ci := 8) rfl rfl 0 rfl rfl rfl (Nat.le_of_ble_eq_true rfl) ⟨Nat.le_of_ble_eq_true rfl, Nat.le_of_ble_eq_true rfl⟩ dX9_readTerms_39 (fun v_39 w_39 h_39 => ?_)
          obtain ⟨r_85, rfl, rfl, hhpk_86, hhpv_87⟩ := h_39
          refine V_to (pc' := 42) (ls' := [(0, .ref tp), (1, .int lv_), (2, .int op_), (3, .int i3)]) (st' := [.int r_85]) (ws' := [(lw, .inr (4, [.ref ws_, .ref ww, .ref wt, .ref wn, .ref wg, .ref wi, .int lz3])), (ws_, .inl (Y 0, 128, .inl fs3)), (ww, .inl (Y 0, 128, .inl fw3)), (tp, .inr (8, [.ref tb, .int tl, .ref lw, .int p3, .int fa])), (tb, .inl (Y 0, 120, .inl fb))]) ?_ rfl rfl rfl rfl
          have hop : r_85.toInt = c q := by have h9 := PK_0 hhpk_86 hfa; unfold PK at h9; omega
          refine V_istore (ls' := [(4, .int r_85), (0, .ref tp), (1, .int lv_), (2, .int op_), (3, .int i3)]) X (by decide) rfl dX9_readTerms_42 ?_
          refine V_aload_n X 1 rfl dX9_readTerms_44 ?_
          refine V_dup X rfl dX9_readTerms_45 ?_
          refine V_get (C := RX9) (T := TX9) (N := 5) (ci := 8) (v := .int p3) X in_X9_readTerms_X9 3 rfl rfl 3 (by decide) (List.mem_of_getElem? (i := 1) rfl) rfl rfl dX9_readTerms_46 ?_
          refine V_iconst (v := (1 : Int32)) X (by decide) dX9_readTerms_49 ?_
          refine V_iaddZ X tp3 (show (1 : Int32).toInt = 1 from by decide) (by omega) (by omega) dX9_readTerms_50 (fun x_88 ex_88 tx_88 => ?_)
          have tx_88 : x_88.toInt = (((q + 1) : Nat) : Int) := by omega
          refine V_put (C := RX9) (T := TX9) (N := 5) (ci := 8) (v := .int x_88) (ty := tyX9 3) (ws' := [(lw, .inr (4, [.ref ws_, .ref ww, .ref wt, .ref wn, .ref wg, .ref wi, .int lz3])), (ws_, .inl (Y 0, 128, .inl fs3)), (ww, .inl (Y 0, 128, .inl fw3)), (tp, .inr (8, [.ref tb, .int tl, .ref lw, .int x_88, .int fa])), (tb, .inl (Y 0, 120, .inl fb))]) X in_X9_readTerms_X9 3 rfl rfl 3 (by decide) (List.mem_of_getElem? (i := 1) rfl) rfl tyX9 tyX9_ok nmX9 rfl (tyX9_ok 3 (by decide)) rfl rfl (Nat.le_of_ble_eq_true rfl) rfl dX9_readTerms_51 ?_
          refine V_aload_n X 1 rfl dX9_readTerms_54 ?_
          refine V_iload_n X 2 rfl dX9_readTerms_55 ?_
          refine V_iconst (v := (1 : Int32)) X (by decide) dX9_readTerms_56 ?_
          refine V_iaddZ X tlv_ (show (1 : Int32).toInt = 1 from by decide) (by omega) (by omega) dX9_readTerms_57 (fun x_89 ex_89 tx_89 => ?_)
          have tx_89 : x_89.toInt = (((lev + 1) : Nat) : Int) := by omega
          refine V_iload_n X 3 rfl dX9_readTerms_58 ?_
          refine V_callV (C := RX9) (wr := []) (st := []) X (ihT l D Y tp tb lw tl x_88 fa (q + 1) L c ws_ ww wt wn wg wi lz3 fs3 fw3 t3 fb x_89 (lev + 1) op_ opn ttl hL tx_88 (by omega) hCH hLC3 hfa (by have h9 := congrArg List.length ht3; rw [List.length_append] at h9; omega) top_ hok tx_89 (by omega)) 2 gX9_readTerms_X9_readTerms rfl (by decide +kernel) ⟨rfl, rfl⟩ ⟨(by simp only [headSpec]; omega), (by simp only [headSpec]; omega)⟩ [3, 4, 0, 1, 2] [] rfl rfl rfl rfl (by decide) (ci := 8) rfl rfl 0 rfl rfl rfl (Nat.le_of_ble_eq_true rfl) ⟨Nat.le_of_ble_eq_true rfl, Nat.le_of_ble_eq_true rfl⟩ dX9_readTerms_59 (fun v_59 w_59 h_59 => ?_)
          rcases h_59 with ⟨q_g, ts_g, pl2_93, lz2_94, fs2_95, fw2_96, rfl, rfl, tplg, hRg, hqbg, hLg⟩ | ⟨q_g, t1_g, pl2_103, fa2_104, lz2_105, fs2_106, fw2_107, rfl, rfl, tplg, hRg, hqLg, hDg, hLg⟩
          · refine V_to (pc' := 62) (ls' := [(4, .int r_85), (0, .ref tp), (1, .int lv_), (2, .int op_), (3, .int i3)]) (st' := []) (ws' := [(tp, .inr (8, [.ref tb, .int tl, .ref lw, .int pl2_93, .int fa])), (tb, .inl (Y 0, 120, .inl fb)), (lw, .inr (4, [.ref ws_, .ref ww, .ref wt, .ref wn, .ref wg, .ref wi, .int lz2_94])), (ws_, .inl (Y 0, 128, .inl fs2_95)), (ww, .inl (Y 0, 128, .inl fw2_96))]) ?_ rfl rfl rfl rfl
            refine V_aload_n X 1 rfl dX9_readTerms_62 ?_
            refine V_get (C := RX9) (T := TX9) (N := 5) (ci := 8) (v := .ref lw) X in_X9_readTerms_X9 0 rfl rfl 2 (by decide) (List.mem_of_getElem? (i := 2) rfl) rfl rfl dX9_readTerms_63 ?_
            refine V_iload X 0 rfl dX9_readTerms_66 ?_
            refine V_iconst (v := (0 : Int32)) X (by decide) dX9_readTerms_68 ?_
            refine V_callV (C := RX5) (wr := [(tp, .inr (8, [.ref tb, .int tl, .ref lw, .int pl2_93, .int fa])), (tb, .inl (Y 0, 120, .inl fb))]) (st := []) X (c_X5_addT l D Y lw ws_ ww wt wn wg wi lz2_94 fs2_95 fw2_96 (t3 ++ ts_g) r_85 (0 : Int32) hLg) 2 gX9_readTerms_X5_add rfl (by decide +kernel) ⟨rfl, rfl⟩ ⟨(by simp only [headSpec]; omega), (by simp only [headSpec]; omega)⟩ [2, 3, 4] [0, 1] rfl rfl rfl rfl (by decide) (ci := 4) rfl rfl 0 rfl rfl rfl (Nat.le_of_ble_eq_true rfl) ⟨Nat.le_of_ble_eq_true rfl, Nat.le_of_ble_eq_true rfl⟩ dX9_readTerms_69 (fun v_69 w_69 h_69 => ?_)
            obtain ⟨lz2_114, fs2_115, fw2_116, t_a, rfl, rfl, hLa, hta⟩ := h_69
            refine V_to (pc' := 72) (ls' := [(4, .int r_85), (0, .ref tp), (1, .int lv_), (2, .int op_), (3, .int i3)]) (st' := []) (ws' := [(tp, .inr (8, [.ref tb, .int tl, .ref lw, .int pl2_93, .int fa])), (tb, .inl (Y 0, 120, .inl fb)), (lw, .inr (4, [.ref ws_, .ref ww, .ref wt, .ref wn, .ref wg, .ref wi, .int lz2_114])), (ws_, .inl (Y 0, 128, .inl fs2_115)), (ww, .inl (Y 0, 128, .inl fw2_116))]) ?_ rfl rfl rfl rfl
            have hc_0 : (0 : Int32).toInt = 0 := by decide
            have hT9 : t_a = t0 ++ (ts_ ++ ts_g ++ [(c q, 0)]) := by have h9 := congrArg List.length ht3; rw [List.length_append] at h9; have h8 := hta (by rw [List.length_append]; omega); rw [hop, show (0 : Int32).toInt = 0 from by decide] at h8; rw [h8, ht3]; simp only [List.append_assoc]
            have hB9 : pos + (ts_ ++ ts_g ++ [(c q, 0)]).length ≤ q_g := by rw [List.length_append, List.length_append, List.length_singleton]; omega
            refine V_iload_n X 2 rfl dX9_readTerms_72 ?_
            refine V_iconst (v := (2 : Int32)) X (by decide) dX9_readTerms_73 ?_
            refine V_icmp_ne X tlv_ (show (2 : Int32).toInt = 2 from by decide) 78 dX9_readTerms_74 (by decide) (fun c_74 => ?_) (fun c_74 => ?_)
            · refine V_iincZ X (fun vv_ => [(3, .int vv_), (4, .int r_85), (0, .ref tp), (1, .int lv_), (2, .int op_)]) ti3 (by omega) (by omega) (by decide) 4 rfl (by decide) (fun _ => rfl) dX9_readTerms_78 (fun x_120 ex_120 tx_120 => ?_)
              have tx_120 : x_120.toInt = (((i + 1) : Nat) : Int) := by omega
              refine V_goto X 21 (by decide) dX9_readTerms_81 ?_
              refine V_ls (ls' := [(0, .ref tp), (1, .int lv_), (2, .int op_), (3, .int x_120)]) [2, 3, 4, 0] rfl ?_
              exact V_to (ih_21 x_120 (i + 1) pl2_93 q_g fa lz2_114 fs2_115 fw2_116 t_a ⟨(by omega), tplg, (by omega), hqbg.2, hLa, (Or.inl ⟨rfl, ts_ ++ ts_g ++ [(c q, 0)], hT9, hB9, (by rw [show 120 - (i + 1) = 120 - i - 1 by omega]; exact pLp_y hP3 (by omega) hlc hRg (by omega))⟩)⟩ (by omega)) rfl rfl rfl rfl
            · exact V_vret X hr dX9_readTerms_77 (Or.inl ⟨q_g, (ts_ ++ ts_g ++ [(c q, 0)]), pl2_93, lz2_114, fs2_115, fw2_116, rfl, rfl, tplg, (pLp_2 hP3 (by omega) hlc hRg (by omega)), ⟨hB9, hqbg.2⟩, (hT9 ▸ hLa)⟩)
          · refine V_to (pc' := 62) (ls' := [(4, .int r_85), (0, .ref tp), (1, .int lv_), (2, .int op_), (3, .int i3)]) (st' := []) (ws' := [(tp, .inr (8, [.ref tb, .int tl, .ref lw, .int pl2_103, .int fa2_104])), (tb, .inl (Y 0, 120, .inl fb)), (lw, .inr (4, [.ref ws_, .ref ww, .ref wt, .ref wn, .ref wg, .ref wi, .int lz2_105])), (ws_, .inl (Y 0, 128, .inl fs2_106)), (ww, .inl (Y 0, 128, .inl fw2_107))]) ?_ rfl rfl rfl rfl
            refine V_aload_n X 1 rfl dX9_readTerms_62 ?_
            refine V_get (C := RX9) (T := TX9) (N := 5) (ci := 8) (v := .ref lw) X in_X9_readTerms_X9 0 rfl rfl 2 (by decide) (List.mem_of_getElem? (i := 2) rfl) rfl rfl dX9_readTerms_63 ?_
            refine V_iload X 0 rfl dX9_readTerms_66 ?_
            refine V_iconst (v := (0 : Int32)) X (by decide) dX9_readTerms_68 ?_
            refine V_callV (C := RX5) (wr := [(tp, .inr (8, [.ref tb, .int tl, .ref lw, .int pl2_103, .int fa2_104])), (tb, .inl (Y 0, 120, .inl fb))]) (st := []) X (c_X5_addT l D Y lw ws_ ww wt wn wg wi lz2_105 fs2_106 fw2_107 t1_g r_85 (0 : Int32) hLg) 2 gX9_readTerms_X5_add rfl (by decide +kernel) ⟨rfl, rfl⟩ ⟨(by simp only [headSpec]; omega), (by simp only [headSpec]; omega)⟩ [2, 3, 4] [0, 1] rfl rfl rfl rfl (by decide) (ci := 4) rfl rfl 0 rfl rfl rfl (Nat.le_of_ble_eq_true rfl) ⟨Nat.le_of_ble_eq_true rfl, Nat.le_of_ble_eq_true rfl⟩ dX9_readTerms_69 (fun v_69 w_69 h_69 => ?_)
            obtain ⟨lz2_122, fs2_123, fw2_124, t_a, rfl, rfl, hLa, hta⟩ := h_69
            refine V_to (pc' := 72) (ls' := [(4, .int r_85), (0, .ref tp), (1, .int lv_), (2, .int op_), (3, .int i3)]) (st' := []) (ws' := [(tp, .inr (8, [.ref tb, .int tl, .ref lw, .int pl2_103, .int fa2_104])), (tb, .inl (Y 0, 120, .inl fb)), (lw, .inr (4, [.ref ws_, .ref ww, .ref wt, .ref wn, .ref wg, .ref wi, .int lz2_122])), (ws_, .inl (Y 0, 128, .inl fs2_123)), (ww, .inl (Y 0, 128, .inl fw2_124))]) ?_ rfl rfl rfl rfl
            have hc_0 : (0 : Int32).toInt = 0 := by decide
            refine V_iload_n X 2 rfl dX9_readTerms_72 ?_
            refine V_iconst (v := (2 : Int32)) X (by decide) dX9_readTerms_73 ?_
            refine V_icmp_ne X tlv_ (show (2 : Int32).toInt = 2 from by decide) 78 dX9_readTerms_74 (by decide) (fun c_74 => ?_) (fun c_74 => ?_)
            · refine V_iincZ X (fun vv_ => [(3, .int vv_), (4, .int r_85), (0, .ref tp), (1, .int lv_), (2, .int op_)]) ti3 (by omega) (by omega) (by decide) 4 rfl (by decide) (fun _ => rfl) dX9_readTerms_78 (fun x_128 ex_128 tx_128 => ?_)
              have tx_128 : x_128.toInt = (((i + 1) : Nat) : Int) := by omega
              refine V_goto X 21 (by decide) dX9_readTerms_81 ?_
              refine V_ls (ls' := [(0, .ref tp), (1, .int lv_), (2, .int op_), (3, .int x_128)]) [2, 3, 4, 0] rfl ?_
              exact V_to (ih_21 x_128 (i + 1) pl2_103 q_g fa2_104 lz2_122 fs2_123 fw2_124 t_a ⟨(by omega), tplg, (by omega), hqLg, hLa, (Or.inr ⟨hDg, pLp_n hP3 (by omega) hlc hRg⟩)⟩ (by omega)) rfl rfl rfl rfl
            · exact V_vret X hr dX9_readTerms_77 (Or.inr (⟨q_g, t_a, pl2_103, fa2_104, lz2_122, fs2_123, fw2_124, rfl, rfl, tplg, (pLp_n hP3 (by omega) hlc hRg), hqLg, hDg, hLa⟩))
    · exact ⟨(by have h9 : (0 : Int32).toInt = 0 := (show (0 : Int32).toInt = 0 from by decide); omega), tplf, (by omega), hqLf, hLf, (Or.inr ⟨hDf, pBd_n hRf⟩)⟩
